/-! contracts of the methods that may throw -/
-- OwnMemory.widen (may throw)
abbrev rX0_widen (C N : Nat) : Room := { frames := 2, cells := C, slots := N, locals := 62 }
theorem nX0_widen : yX0_widen.cls = RX0 ∧ yX0_widen.cls ≠ "java/lang/invoke/MethodHandle" ∧ yX0_widen.cls ≠ "java/lang/invoke/VarHandle" ∧ (parseMethodDescriptor yX0_widen.desc).map (fun d => d.parameters.length) = some 1 := by decide +kernel
noncomputable def LX0_widen_8 (F : Nat) (K : Int32 → Int32 → oS → Option ((Int32 ⊕ Unit) × oS × Nat × Nat)) (v1 : Int32) : Nat → Int32 → Int32 → oS → Option ((Int32 ⊕ Unit) × oS × Nat × Nat)
  | 0, _, _, _ => none
  | n + 1, v2, v3, σ => cIf (20 ≤ v3) (K v2 v3 σ) (cIf ((2 * v1) ≤ v2) (K v2 v3 σ) (cIf ((o_lim σ) ≤ v2) (K v2 v3 σ) (nmd (v2 + v2) (fun x5 => nmd (v3 + 1) (fun x6 => LX0_widen_8 F K v1 n x5 x6 σ)))))
noncomputable def fX0_widen (F : Nat) (σ : oS) (p1 : Int32) : xT Unit := nmd (nI (o_lw σ)) (fun x1 => LX0_widen_8 F (fun w7 w8 σ9 => cIf (w7 ≤ (nI (o_lw σ9))) (some (.inr (), σ9, 0, 0)) (nmd (cIf ((o_lim σ9) < w7) (o_lim σ9) w7) (fun x11 => addC 1 x11.toNatClampNeg (ck (¬ x11 < 0 ∧ o_lw σ9 < x11.toNatClampNeg ∧ x11.toNatClampNeg ≤ 1048576) (nmd (o_s_fw (o_s_lw σ9 x11.toNatClampNeg) (grown (o_fw σ9) (o_lw σ9))) (fun σ13 => some (.inr (), σ13, 0, 0))))))) p1 F x1 0 σ)
set_option maxHeartbeats 4000000 in
set_option maxRecDepth 100000 in
theorem lX0_widen_8 {p : Program} {l : Launch} {e : Env} {s : State} {m : MethodId} {args : Array Value} {below : List Frame} {meth : Method} {c : Code} {A : Nat → Prop} {G : gT} {h0 : Nat} {h : oH} {F : Nat} {C N Cr Nr cells slots : Nat} {r : Int32 ⊕ Unit} {σr : oS} (S : CallFix p m c cX0_widen 4 s args wsX0_widen RX0) (hr : meth.sig.returnType = none) (hlocks : meth.locks = false) (hin : ∀ w ∈ wsX00, w ∈ wsX0_widen) (hK : gK G s) (hA : ∀ q, s.heap.size ≤ q → A q) (htr : l.stackTraces = false) (hno : ∀ x ∈ c.exceptionTable.toList, False) (hZ : xZ A s s.heap) (hC : cells + Cr ≤ C) (hN : slots + Nr ≤ N) {K : Int32 → Int32 → oS → Option ((Int32 ⊕ Unit) × oS × Nat × Nat)} (v1 : Int32) (n : Nat) : ∀ (v2 : Int32) (v3 : Int32) (σ : oS) (H : Heap) (locs : List Loc) (ls : Array Slot), LX0_widen_8 F K v1 n v2 v3 σ = some (r, σr, Cr, Nr) → oI s A G h0 h σ H locs → lv_has ls 4 [(0, .ref h0), (1, .int v1), (2, .int v2), (3, .int v3)] → (∀ (v2 : Int32) (v3 : Int32) (σ : oS) (H : Heap) (locs : List Loc) (ls : Array Slot), K v2 v3 σ = some (r, σr, Cr, Nr) → oI s A G h0 h σ H locs → lv_has ls 4 [(0, .ref h0), (1, .int v1), (2, .int v2), (3, .int v3)] → W p l e (rX0_widen C N) s m args below meth c H locs cells slots (vx_MQ below (oyv G h0 h r σr A) (oyX G h0 h r σr A) args s C N A) (F0 m 39 ls [])) → W p l e (rX0_widen C N) s m args below meth c H locs cells slots (vx_MQ below (oyv G h0 h r σr A) (oyX G h0 h r σr A) args s C N A) (F0 m 8 ls []) := by
  have hx := S.1
  have hb := S.2.1
  have hts := S.2.2.2.2
  have hown := S.2.2.2.1
  induction n with
  | zero => intro v2 v3 σ H locs ls hg; rw [LX0_widen_8] at hg; cases hg
  | succ n ih =>
    intro v2 v3 σ H locs ls hg hI hl kk
    rw [LX0_widen_8] at hg
    refine lv_iload_n hx hb dX0_widen_8 rfl (lv_at hl 3 rfl) ?_
    refine lv_bipush (v := 20) hx hb dX0_widen_9 (by decide) ?_
    refine lv_icmp_ge (tgt := 39) hx hb dX0_widen_11 (by decide) (fun c2 => ?_) (fun c2 => ?_)
    · have hg := cIf_te c2 hg
      exact kk v2 v3 σ H locs ls hg hI (lv_sub hl [0, 1, 2, 3] rfl)
    · have hg := cIf_fe c2 hg
      refine lv_iload_n hx hb dX0_widen_14 rfl (lv_at hl 2 rfl) ?_
      refine lv_iconst (v := 2) hx hb dX0_widen_15 (by decide) ?_
      refine lv_iload_n hx hb dX0_widen_16 rfl (lv_at hl 1 rfl) ?_
      refine lv_imul hx hb dX0_widen_17 ?_
      refine lv_icmp_ge (tgt := 39) hx hb dX0_widen_18 (by decide) (fun c3 => ?_) (fun c3 => ?_)
      · have hg := cIf_te c3 hg
        exact kk v2 v3 σ H locs ls hg hI (lv_sub hl [0, 1, 2, 3] rfl)
      · have hg := cIf_fe c3 hg
        refine lv_iload_n hx hb dX0_widen_21 rfl (lv_at hl 2 rfl) ?_
        refine lv_aload_n hx hb dX0_widen_22 rfl (lv_at hl 0 rfl) ?_
        refine og_limit S hin hK hI (ix := 19) (by decide +kernel) dX0_widen_23 ?_
        refine lv_icmp_ge (tgt := 39) hx hb dX0_widen_26 (by decide) (fun c4 => ?_) (fun c4 => ?_)
        · have hg := cIf_te c4 hg
          exact kk v2 v3 σ H locs ls hg hI (lv_sub hl [0, 1, 2, 3] rfl)
        · have hg := cIf_fe c4 hg
          refine lv_iload_n hx hb dX0_widen_29 rfl (lv_at hl 2 rfl) ?_
          refine lv_iload_n hx hb dX0_widen_30 rfl (lv_at hl 2 rfl) ?_
          refine lv_iadd hx hb dX0_widen_31 ?_
          obtain ⟨x5, ex5, hg⟩ := nmd_e hg
          refine wn_i ex5 ?_
          refine lv_istore_n (lv' := [(2, .int x5), (0, .ref h0), (1, .int v1), (3, .int v3)]) hx hb dX0_widen_32 rfl hl (by decide) rfl (fun ls hl => ?_)
          obtain ⟨x6, ex6, hg⟩ := nmd_e hg
          refine lv_iinc (v := x6) (lv' := [(3, .int x6), (2, .int x5), (0, .ref h0), (1, .int v1)]) hx hb dX0_widen_33 hl (k := 3) rfl (by rw [ex6]; rfl) (by decide) rfl (fun ls hl => ?_)
          refine lv_goto (tgt := 8) hx hb dX0_widen_36 (by decide) ?_
          exact ih x5 x6 σ H locs ls hg hI (lv_sub hl [2, 3, 1, 0] rfl) kk
set_option maxHeartbeats 4000000 in
set_option maxRecDepth 100000 in
theorem kX0_widen (l : Launch) (htr : l.stackTraces = false) (G : gT) (h0 : Nat) (h : oH) (sz F : Nat) (σ : oS) (p1 : Int32) (r : Int32 ⊕ Unit) (σr : oS) (C N : Nat) (hg : fX0_widen F σ p1 = some (r, σr, C, N)) : vx_Met l yX0_widen wsX0_widen (rX0_widen C N) (oPreX G h0 h σ sz [.int p1]) (oyv G h0 h r σr (oA G h0 h σ sz)) (oyX G h0 h r σr (oA G h0 h σ sz)) C N (oA G h0 h σ sz) := by
  refine oxMet (Qc := oyv G h0 h r σr) (XC := oyX G h0 h r σr) (by decide +kernel) rfl rfl (Nat.le_of_ble_eq_true rfl) ?_
  intro p e s m args below meth c A S hr hlocks hno hK hA hZ H locs hI ls hl
  have hl : lv_has ls 4 [(0, .ref h0), (1, .int p1)] := hl
  have hin : ∀ w ∈ wsX00, w ∈ wsX0_widen := by decide +kernel
  have hx := S.1
  have hb := S.2.1
  have hts := S.2.2.2.2
  have hown := S.2.2.2.1
  have hC : 0 + C ≤ C := by omega
  have hN : 0 + N ≤ N := by omega
  unfold fX0_widen at hg
  refine lv_aload_n hx hb dX0_widen_0 rfl (lv_at hl 0 rfl) ?_
  refine og_words S hin hK hI (ix := 23) (by decide +kernel) dX0_widen_1 ?_
  refine ol_words S hK hI dX0_widen_4 ?_
  obtain ⟨x1, ex1, hg⟩ := nmd_e hg
  refine wn_i ex1 ?_
  refine lv_istore_n (lv' := [(2, .int x1), (0, .ref h0), (1, .int p1)]) hx hb dX0_widen_5 rfl hl (by decide) rfl (fun ls hl => ?_)
  refine lv_iconst (v := 0) hx hb dX0_widen_6 (by decide) ?_
  refine lv_istore_n (lv' := [(3, .int 0), (2, .int x1), (0, .ref h0), (1, .int p1)]) hx hb dX0_widen_7 rfl hl (by decide) rfl (fun ls hl => ?_)
  refine lX0_widen_8 S hr hlocks hin hK hA htr hno hZ (by omega) (by omega) p1 F x1 0 σ H locs ls hg hI (lv_sub hl [2, 3, 1, 0] rfl) (fun w7 w8 σ9 H locs ls hg hI hl => ?_)
  refine lv_iload_n hx hb dX0_widen_39 rfl (lv_at hl 2 rfl) ?_
  refine lv_aload_n hx hb dX0_widen_40 rfl (lv_at hl 0 rfl) ?_
  refine og_words S hin hK hI (ix := 23) (by decide +kernel) dX0_widen_41 ?_
  refine ol_words S hK hI dX0_widen_44 ?_
  refine lv_icmp_le (tgt := 67) hx hb dX0_widen_45 (by decide) (fun c10 => ?_) (fun c10 => ?_)
  · have hg := cIf_te c10 hg
    exact oye_v S hr hlocks hK hI rfl hg (by omega) (by omega) dX0_widen_67
  · have hg := cIf_fe c10 hg
    refine lv_aload_n hx hb dX0_widen_48 rfl (lv_at hl 0 rfl) ?_
    refine lv_aload_n hx hb dX0_widen_49 rfl (lv_at hl 0 rfl) ?_
    refine og_words S hin hK hI (ix := 23) (by decide +kernel) dX0_widen_50 ?_
    refine lv_iload_n hx hb dX0_widen_53 rfl (lv_at hl 2 rfl) ?_
    refine lv_aload_n hx hb dX0_widen_54 rfl (lv_at hl 0 rfl) ?_
    refine og_limit S hin hK hI (ix := 19) (by decide +kernel) dX0_widen_55 ?_
    obtain ⟨x11, ex11, hg⟩ := nmd_e hg
    refine ox_min S (ix := 10) (by decide +kernel) hl.1 ex11 (Nat.le_of_ble_eq_true rfl) (Nat.le_of_ble_eq_true rfl) (by show 0 ≤ C; omega) (by show 0 ≤ N; omega) dX0_widen_58 ?_
    obtain ⟨C14, N14, hg, eC, eN⟩ := addC_e hg
    obtain ⟨c12, hg⟩ := ck_e hg
    obtain ⟨σ13, eσ13, hg⟩ := nmd_e hg
    refine ox_growW S hin hK hA hI (ix := 23) c12 eσ13 gX0_widen_J7_copyOf_59c91 (by decide +kernel) hl.1 ⟨Nat.le_of_ble_eq_true rfl, Nat.le_of_ble_eq_true rfl⟩ ⟨by show 0 + 1 ≤ C; omega, by show 0 + x11.toNatClampNeg ≤ N; omega⟩ (Nat.le_of_ble_eq_true rfl) dX0_widen_61 dX0_widen_64 (fun q14 H locs hI => ?_)
    have hC : (0 + 1) + C14 ≤ C := by omega
    have hN : (0 + x11.toNatClampNeg) + N14 ≤ N := by omega
    exact oye_v S hr hlocks hK hI rfl hg (by omega) (by omega) dX0_widen_67
-- OwnMemory.make (may throw)
abbrev rX0_make (C N : Nat) : Room := { frames := 6, cells := C, slots := N, locals := 90 }
theorem nX0_make : yX0_make.cls = RX0 ∧ yX0_make.cls ≠ "java/lang/invoke/MethodHandle" ∧ yX0_make.cls ≠ "java/lang/invoke/VarHandle" ∧ (parseMethodDescriptor yX0_make.desc).map (fun d => d.parameters.length) = some 4 := by decide +kernel
noncomputable def fX0_make (F : Nat) (σ : oS) (p1 : Int32) (p2 : Int32) (p3 : Int32) (p4 : Int32) : xT Int32 := nmd (((3 + p2) + (2 * p3)) + p4) (fun x1 => cIf (x1 ≤ ((nI (o_lw σ)) - (o_us σ))) (cIf ((0 : Int32) = 0) (bnd (fX0_isStressed F σ ) (fun r33 σ32 => cIf (r33 = 0) (cIf (x1 ≤ ((o_lim σ32) - (o_us σ32))) (cIf ((0 : Int32) = 0) (nmd (o_us σ32) (fun x37 => nmd (o_s_us σ32 ((o_us σ32) + x1)) (fun σ38 => nmd (o_s_md σ38 ((o_md σ38) + 1)) (fun σ39 => ck (¬ x37 < 0 ∧ x37 ≤ (o_us σ39) ∧ (o_us σ39) ≤ nI (o_lw σ39) ∧ o_lw σ39 < 2147483648) (nmd (o_s_fw σ39 (fillF (o_fw σ39) x37.toNatClampNeg (o_us σ39).toNatClampNeg 0)) (fun σ41 => ck (¬ (x37 + 3) < 0 ∧ (x37 + 3) ≤ ((x37 + 3) + p2) ∧ ((x37 + 3) + p2) ≤ nI (o_lw σ41) ∧ o_lw σ41 < 2147483648) (nmd (o_s_fw σ41 (fillF (o_fw σ41) (x37 + 3).toNatClampNeg ((x37 + 3) + p2).toNatClampNeg (-1))) (fun σ43 => bnp (fX0_shapeOf F p1 p2 p3 x1) (fun r44 => ck (vp_in (x37 + 0) (o_lw σ43)) (nmd (o_s_fw σ43 (upd (o_fw σ43) (x37 + 0).toNatClampNeg r44)) (fun σ46 => ck (vp_in (x37 + 1) (o_lw σ46)) (nmd (o_s_fw σ46 (upd (o_fw σ46) (x37 + 1).toNatClampNeg (-1))) (fun σ48 => some (.inr x37, σ48, 0, 0)))))))))))))) (bndX (fX0_widen F σ32 ((o_us σ32) + x1)) (fun a49 σ49 => nmd (o_us σ49) (fun x50 => nmd (o_s_us σ49 ((o_us σ49) + x1)) (fun σ51 => nmd (o_s_md σ51 ((o_md σ51) + 1)) (fun σ52 => ck (¬ x50 < 0 ∧ x50 ≤ (o_us σ52) ∧ (o_us σ52) ≤ nI (o_lw σ52) ∧ o_lw σ52 < 2147483648) (nmd (o_s_fw σ52 (fillF (o_fw σ52) x50.toNatClampNeg (o_us σ52).toNatClampNeg 0)) (fun σ54 => ck (¬ (x50 + 3) < 0 ∧ (x50 + 3) ≤ ((x50 + 3) + p2) ∧ ((x50 + 3) + p2) ≤ nI (o_lw σ54) ∧ o_lw σ54 < 2147483648) (nmd (o_s_fw σ54 (fillF (o_fw σ54) (x50 + 3).toNatClampNeg ((x50 + 3) + p2).toNatClampNeg (-1))) (fun σ56 => bnp (fX0_shapeOf F p1 p2 p3 x1) (fun r57 => ck (vp_in (x50 + 0) (o_lw σ56)) (nmd (o_s_fw σ56 (upd (o_fw σ56) (x50 + 0).toNatClampNeg r57)) (fun σ59 => ck (vp_in (x50 + 1) (o_lw σ59)) (nmd (o_s_fw σ59 (upd (o_fw σ59) (x50 + 1).toNatClampNeg (-1))) (fun σ61 => some (.inr x50, σ61, 0, 0)))))))))))))))) (some (.inl 2, σ32, 1, 6))) (bnp (fX0_slideTogether F σ32 ) (fun σ62 => cIf (x1 ≤ ((o_lim σ62) - (o_us σ62))) (cIf ((0 : Int32) = 0) (nmd (o_us σ62) (fun x65 => nmd (o_s_us σ62 ((o_us σ62) + x1)) (fun σ66 => nmd (o_s_md σ66 ((o_md σ66) + 1)) (fun σ67 => ck (¬ x65 < 0 ∧ x65 ≤ (o_us σ67) ∧ (o_us σ67) ≤ nI (o_lw σ67) ∧ o_lw σ67 < 2147483648) (nmd (o_s_fw σ67 (fillF (o_fw σ67) x65.toNatClampNeg (o_us σ67).toNatClampNeg 0)) (fun σ69 => ck (¬ (x65 + 3) < 0 ∧ (x65 + 3) ≤ ((x65 + 3) + p2) ∧ ((x65 + 3) + p2) ≤ nI (o_lw σ69) ∧ o_lw σ69 < 2147483648) (nmd (o_s_fw σ69 (fillF (o_fw σ69) (x65 + 3).toNatClampNeg ((x65 + 3) + p2).toNatClampNeg (-1))) (fun σ71 => bnp (fX0_shapeOf F p1 p2 p3 x1) (fun r72 => ck (vp_in (x65 + 0) (o_lw σ71)) (nmd (o_s_fw σ71 (upd (o_fw σ71) (x65 + 0).toNatClampNeg r72)) (fun σ74 => ck (vp_in (x65 + 1) (o_lw σ74)) (nmd (o_s_fw σ74 (upd (o_fw σ74) (x65 + 1).toNatClampNeg (-1))) (fun σ76 => some (.inr x65, σ76, 0, 0)))))))))))))) (bndX (fX0_widen F σ62 ((o_us σ62) + x1)) (fun a77 σ77 => nmd (o_us σ77) (fun x78 => nmd (o_s_us σ77 ((o_us σ77) + x1)) (fun σ79 => nmd (o_s_md σ79 ((o_md σ79) + 1)) (fun σ80 => ck (¬ x78 < 0 ∧ x78 ≤ (o_us σ80) ∧ (o_us σ80) ≤ nI (o_lw σ80) ∧ o_lw σ80 < 2147483648) (nmd (o_s_fw σ80 (fillF (o_fw σ80) x78.toNatClampNeg (o_us σ80).toNatClampNeg 0)) (fun σ82 => ck (¬ (x78 + 3) < 0 ∧ (x78 + 3) ≤ ((x78 + 3) + p2) ∧ ((x78 + 3) + p2) ≤ nI (o_lw σ82) ∧ o_lw σ82 < 2147483648) (nmd (o_s_fw σ82 (fillF (o_fw σ82) (x78 + 3).toNatClampNeg ((x78 + 3) + p2).toNatClampNeg (-1))) (fun σ84 => bnp (fX0_shapeOf F p1 p2 p3 x1) (fun r85 => ck (vp_in (x78 + 0) (o_lw σ84)) (nmd (o_s_fw σ84 (upd (o_fw σ84) (x78 + 0).toNatClampNeg r85)) (fun σ87 => ck (vp_in (x78 + 1) (o_lw σ87)) (nmd (o_s_fw σ87 (upd (o_fw σ87) (x78 + 1).toNatClampNeg (-1))) (fun σ89 => some (.inr x78, σ89, 0, 0)))))))))))))))) (some (.inl 2, σ62, 1, 6)))))) (bnp (fX0_slideTogether F σ ) (fun σ4 => cIf (x1 ≤ ((o_lim σ4) - (o_us σ4))) (cIf ((0 : Int32) = 0) (nmd (o_us σ4) (fun x7 => nmd (o_s_us σ4 ((o_us σ4) + x1)) (fun σ8 => nmd (o_s_md σ8 ((o_md σ8) + 1)) (fun σ9 => ck (¬ x7 < 0 ∧ x7 ≤ (o_us σ9) ∧ (o_us σ9) ≤ nI (o_lw σ9) ∧ o_lw σ9 < 2147483648) (nmd (o_s_fw σ9 (fillF (o_fw σ9) x7.toNatClampNeg (o_us σ9).toNatClampNeg 0)) (fun σ11 => ck (¬ (x7 + 3) < 0 ∧ (x7 + 3) ≤ ((x7 + 3) + p2) ∧ ((x7 + 3) + p2) ≤ nI (o_lw σ11) ∧ o_lw σ11 < 2147483648) (nmd (o_s_fw σ11 (fillF (o_fw σ11) (x7 + 3).toNatClampNeg ((x7 + 3) + p2).toNatClampNeg (-1))) (fun σ13 => bnp (fX0_shapeOf F p1 p2 p3 x1) (fun r14 => ck (vp_in (x7 + 0) (o_lw σ13)) (nmd (o_s_fw σ13 (upd (o_fw σ13) (x7 + 0).toNatClampNeg r14)) (fun σ16 => ck (vp_in (x7 + 1) (o_lw σ16)) (nmd (o_s_fw σ16 (upd (o_fw σ16) (x7 + 1).toNatClampNeg (-1))) (fun σ18 => some (.inr x7, σ18, 0, 0)))))))))))))) (bndX (fX0_widen F σ4 ((o_us σ4) + x1)) (fun a19 σ19 => nmd (o_us σ19) (fun x20 => nmd (o_s_us σ19 ((o_us σ19) + x1)) (fun σ21 => nmd (o_s_md σ21 ((o_md σ21) + 1)) (fun σ22 => ck (¬ x20 < 0 ∧ x20 ≤ (o_us σ22) ∧ (o_us σ22) ≤ nI (o_lw σ22) ∧ o_lw σ22 < 2147483648) (nmd (o_s_fw σ22 (fillF (o_fw σ22) x20.toNatClampNeg (o_us σ22).toNatClampNeg 0)) (fun σ24 => ck (¬ (x20 + 3) < 0 ∧ (x20 + 3) ≤ ((x20 + 3) + p2) ∧ ((x20 + 3) + p2) ≤ nI (o_lw σ24) ∧ o_lw σ24 < 2147483648) (nmd (o_s_fw σ24 (fillF (o_fw σ24) (x20 + 3).toNatClampNeg ((x20 + 3) + p2).toNatClampNeg (-1))) (fun σ26 => bnp (fX0_shapeOf F p1 p2 p3 x1) (fun r27 => ck (vp_in (x20 + 0) (o_lw σ26)) (nmd (o_s_fw σ26 (upd (o_fw σ26) (x20 + 0).toNatClampNeg r27)) (fun σ29 => ck (vp_in (x20 + 1) (o_lw σ29)) (nmd (o_s_fw σ29 (upd (o_fw σ29) (x20 + 1).toNatClampNeg (-1))) (fun σ31 => some (.inr x20, σ31, 0, 0)))))))))))))))) (some (.inl 2, σ4, 1, 6))))) (cIf ((1 : Int32) = 0) (bnd (fX0_isStressed F σ ) (fun r120 σ119 => cIf (r120 = 0) (cIf (x1 ≤ ((o_lim σ119) - (o_us σ119))) (cIf ((1 : Int32) = 0) (nmd (o_us σ119) (fun x124 => nmd (o_s_us σ119 ((o_us σ119) + x1)) (fun σ125 => nmd (o_s_md σ125 ((o_md σ125) + 1)) (fun σ126 => ck (¬ x124 < 0 ∧ x124 ≤ (o_us σ126) ∧ (o_us σ126) ≤ nI (o_lw σ126) ∧ o_lw σ126 < 2147483648) (nmd (o_s_fw σ126 (fillF (o_fw σ126) x124.toNatClampNeg (o_us σ126).toNatClampNeg 0)) (fun σ128 => ck (¬ (x124 + 3) < 0 ∧ (x124 + 3) ≤ ((x124 + 3) + p2) ∧ ((x124 + 3) + p2) ≤ nI (o_lw σ128) ∧ o_lw σ128 < 2147483648) (nmd (o_s_fw σ128 (fillF (o_fw σ128) (x124 + 3).toNatClampNeg ((x124 + 3) + p2).toNatClampNeg (-1))) (fun σ130 => bnp (fX0_shapeOf F p1 p2 p3 x1) (fun r131 => ck (vp_in (x124 + 0) (o_lw σ130)) (nmd (o_s_fw σ130 (upd (o_fw σ130) (x124 + 0).toNatClampNeg r131)) (fun σ133 => ck (vp_in (x124 + 1) (o_lw σ133)) (nmd (o_s_fw σ133 (upd (o_fw σ133) (x124 + 1).toNatClampNeg (-1))) (fun σ135 => some (.inr x124, σ135, 0, 0)))))))))))))) (bndX (fX0_widen F σ119 ((o_us σ119) + x1)) (fun a136 σ136 => nmd (o_us σ136) (fun x137 => nmd (o_s_us σ136 ((o_us σ136) + x1)) (fun σ138 => nmd (o_s_md σ138 ((o_md σ138) + 1)) (fun σ139 => ck (¬ x137 < 0 ∧ x137 ≤ (o_us σ139) ∧ (o_us σ139) ≤ nI (o_lw σ139) ∧ o_lw σ139 < 2147483648) (nmd (o_s_fw σ139 (fillF (o_fw σ139) x137.toNatClampNeg (o_us σ139).toNatClampNeg 0)) (fun σ141 => ck (¬ (x137 + 3) < 0 ∧ (x137 + 3) ≤ ((x137 + 3) + p2) ∧ ((x137 + 3) + p2) ≤ nI (o_lw σ141) ∧ o_lw σ141 < 2147483648) (nmd (o_s_fw σ141 (fillF (o_fw σ141) (x137 + 3).toNatClampNeg ((x137 + 3) + p2).toNatClampNeg (-1))) (fun σ143 => bnp (fX0_shapeOf F p1 p2 p3 x1) (fun r144 => ck (vp_in (x137 + 0) (o_lw σ143)) (nmd (o_s_fw σ143 (upd (o_fw σ143) (x137 + 0).toNatClampNeg r144)) (fun σ146 => ck (vp_in (x137 + 1) (o_lw σ146)) (nmd (o_s_fw σ146 (upd (o_fw σ146) (x137 + 1).toNatClampNeg (-1))) (fun σ148 => some (.inr x137, σ148, 0, 0)))))))))))))))) (some (.inl 2, σ119, 1, 6))) (bnp (fX0_slideTogether F σ119 ) (fun σ149 => cIf (x1 ≤ ((o_lim σ149) - (o_us σ149))) (cIf ((1 : Int32) = 0) (nmd (o_us σ149) (fun x152 => nmd (o_s_us σ149 ((o_us σ149) + x1)) (fun σ153 => nmd (o_s_md σ153 ((o_md σ153) + 1)) (fun σ154 => ck (¬ x152 < 0 ∧ x152 ≤ (o_us σ154) ∧ (o_us σ154) ≤ nI (o_lw σ154) ∧ o_lw σ154 < 2147483648) (nmd (o_s_fw σ154 (fillF (o_fw σ154) x152.toNatClampNeg (o_us σ154).toNatClampNeg 0)) (fun σ156 => ck (¬ (x152 + 3) < 0 ∧ (x152 + 3) ≤ ((x152 + 3) + p2) ∧ ((x152 + 3) + p2) ≤ nI (o_lw σ156) ∧ o_lw σ156 < 2147483648) (nmd (o_s_fw σ156 (fillF (o_fw σ156) (x152 + 3).toNatClampNeg ((x152 + 3) + p2).toNatClampNeg (-1))) (fun σ158 => bnp (fX0_shapeOf F p1 p2 p3 x1) (fun r159 => ck (vp_in (x152 + 0) (o_lw σ158)) (nmd (o_s_fw σ158 (upd (o_fw σ158) (x152 + 0).toNatClampNeg r159)) (fun σ161 => ck (vp_in (x152 + 1) (o_lw σ161)) (nmd (o_s_fw σ161 (upd (o_fw σ161) (x152 + 1).toNatClampNeg (-1))) (fun σ163 => some (.inr x152, σ163, 0, 0)))))))))))))) (bndX (fX0_widen F σ149 ((o_us σ149) + x1)) (fun a164 σ164 => nmd (o_us σ164) (fun x165 => nmd (o_s_us σ164 ((o_us σ164) + x1)) (fun σ166 => nmd (o_s_md σ166 ((o_md σ166) + 1)) (fun σ167 => ck (¬ x165 < 0 ∧ x165 ≤ (o_us σ167) ∧ (o_us σ167) ≤ nI (o_lw σ167) ∧ o_lw σ167 < 2147483648) (nmd (o_s_fw σ167 (fillF (o_fw σ167) x165.toNatClampNeg (o_us σ167).toNatClampNeg 0)) (fun σ169 => ck (¬ (x165 + 3) < 0 ∧ (x165 + 3) ≤ ((x165 + 3) + p2) ∧ ((x165 + 3) + p2) ≤ nI (o_lw σ169) ∧ o_lw σ169 < 2147483648) (nmd (o_s_fw σ169 (fillF (o_fw σ169) (x165 + 3).toNatClampNeg ((x165 + 3) + p2).toNatClampNeg (-1))) (fun σ171 => bnp (fX0_shapeOf F p1 p2 p3 x1) (fun r172 => ck (vp_in (x165 + 0) (o_lw σ171)) (nmd (o_s_fw σ171 (upd (o_fw σ171) (x165 + 0).toNatClampNeg r172)) (fun σ174 => ck (vp_in (x165 + 1) (o_lw σ174)) (nmd (o_s_fw σ174 (upd (o_fw σ174) (x165 + 1).toNatClampNeg (-1))) (fun σ176 => some (.inr x165, σ176, 0, 0)))))))))))))))) (some (.inl 2, σ149, 1, 6)))))) (bnp (fX0_slideTogether F σ ) (fun σ91 => cIf (x1 ≤ ((o_lim σ91) - (o_us σ91))) (cIf ((1 : Int32) = 0) (nmd (o_us σ91) (fun x94 => nmd (o_s_us σ91 ((o_us σ91) + x1)) (fun σ95 => nmd (o_s_md σ95 ((o_md σ95) + 1)) (fun σ96 => ck (¬ x94 < 0 ∧ x94 ≤ (o_us σ96) ∧ (o_us σ96) ≤ nI (o_lw σ96) ∧ o_lw σ96 < 2147483648) (nmd (o_s_fw σ96 (fillF (o_fw σ96) x94.toNatClampNeg (o_us σ96).toNatClampNeg 0)) (fun σ98 => ck (¬ (x94 + 3) < 0 ∧ (x94 + 3) ≤ ((x94 + 3) + p2) ∧ ((x94 + 3) + p2) ≤ nI (o_lw σ98) ∧ o_lw σ98 < 2147483648) (nmd (o_s_fw σ98 (fillF (o_fw σ98) (x94 + 3).toNatClampNeg ((x94 + 3) + p2).toNatClampNeg (-1))) (fun σ100 => bnp (fX0_shapeOf F p1 p2 p3 x1) (fun r101 => ck (vp_in (x94 + 0) (o_lw σ100)) (nmd (o_s_fw σ100 (upd (o_fw σ100) (x94 + 0).toNatClampNeg r101)) (fun σ103 => ck (vp_in (x94 + 1) (o_lw σ103)) (nmd (o_s_fw σ103 (upd (o_fw σ103) (x94 + 1).toNatClampNeg (-1))) (fun σ105 => some (.inr x94, σ105, 0, 0)))))))))))))) (bndX (fX0_widen F σ91 ((o_us σ91) + x1)) (fun a106 σ106 => nmd (o_us σ106) (fun x107 => nmd (o_s_us σ106 ((o_us σ106) + x1)) (fun σ108 => nmd (o_s_md σ108 ((o_md σ108) + 1)) (fun σ109 => ck (¬ x107 < 0 ∧ x107 ≤ (o_us σ109) ∧ (o_us σ109) ≤ nI (o_lw σ109) ∧ o_lw σ109 < 2147483648) (nmd (o_s_fw σ109 (fillF (o_fw σ109) x107.toNatClampNeg (o_us σ109).toNatClampNeg 0)) (fun σ111 => ck (¬ (x107 + 3) < 0 ∧ (x107 + 3) ≤ ((x107 + 3) + p2) ∧ ((x107 + 3) + p2) ≤ nI (o_lw σ111) ∧ o_lw σ111 < 2147483648) (nmd (o_s_fw σ111 (fillF (o_fw σ111) (x107 + 3).toNatClampNeg ((x107 + 3) + p2).toNatClampNeg (-1))) (fun σ113 => bnp (fX0_shapeOf F p1 p2 p3 x1) (fun r114 => ck (vp_in (x107 + 0) (o_lw σ113)) (nmd (o_s_fw σ113 (upd (o_fw σ113) (x107 + 0).toNatClampNeg r114)) (fun σ116 => ck (vp_in (x107 + 1) (o_lw σ116)) (nmd (o_s_fw σ116 (upd (o_fw σ116) (x107 + 1).toNatClampNeg (-1))) (fun σ118 => some (.inr x107, σ118, 0, 0)))))))))))))))) (some (.inl 2, σ91, 1, 6))))))
set_option maxHeartbeats 4000000 in
set_option maxRecDepth 100000 in
theorem kX0_make (l : Launch) (htr : l.stackTraces = false) (G : gT) (h0 : Nat) (h : oH) (sz F : Nat) (σ : oS) (p1 : Int32) (p2 : Int32) (p3 : Int32) (p4 : Int32) (r : Int32 ⊕ Int32) (σr : oS) (C N : Nat) (hg : fX0_make F σ p1 p2 p3 p4 = some (r, σr, C, N)) : vx_Met l yX0_make wsX0_make (rX0_make C N) (oPreX G h0 h σ sz [.int p1, .int p2, .int p3, .int p4]) (oyi G h0 h r σr (oA G h0 h σ sz)) (oyX G h0 h r σr (oA G h0 h σ sz)) C N (oA G h0 h σ sz) := by
  refine oxMet (Qc := oyi G h0 h r σr) (XC := oyX G h0 h r σr) (by decide +kernel) rfl rfl (Nat.le_of_ble_eq_true rfl) ?_
  intro p e s m args below meth c A S hr hlocks hno hK hA hZ H locs hI ls hl
  have hl : lv_has ls 8 [(0, .ref h0), (1, .int p1), (2, .int p2), (3, .int p3), (4, .int p4)] := hl
  have hin : ∀ w ∈ wsX00, w ∈ wsX0_make := by decide +kernel
  have hx := S.1
  have hb := S.2.1
  have hts := S.2.2.2.2
  have hown := S.2.2.2.1
  have hC : 0 + C ≤ C := by omega
  have hN : 0 + N ≤ N := by omega
  unfold fX0_make at hg
  refine lv_iconst (v := 3) hx hb dX0_make_0 (by decide) ?_
  refine lv_iload_n hx hb dX0_make_1 rfl (lv_at hl 2 rfl) ?_
  refine lv_iadd hx hb dX0_make_2 ?_
  refine lv_iconst (v := 2) hx hb dX0_make_3 (by decide) ?_
  refine lv_iload_n hx hb dX0_make_4 rfl (lv_at hl 3 rfl) ?_
  refine lv_imul hx hb dX0_make_5 ?_
  refine lv_iadd hx hb dX0_make_6 ?_
  refine lv_iload hx hb dX0_make_7 (lv_at hl 4 rfl) ?_
  refine lv_iadd hx hb dX0_make_9 ?_
  obtain ⟨x1, ex1, hg⟩ := nmd_e hg
  refine wn_i ex1 ?_
  refine lv_istore (lv' := [(5, .int x1), (0, .ref h0), (1, .int p1), (2, .int p2), (3, .int p3), (4, .int p4)]) hx hb dX0_make_10 hl (by decide) rfl (fun ls hl => ?_)
  refine lv_iload hx hb dX0_make_12 (lv_at hl 0 rfl) ?_
  refine lv_aload_n hx hb dX0_make_14 rfl (lv_at hl 1 rfl) ?_
  refine og_words S hin hK hI (ix := 23) (by decide +kernel) dX0_make_15 ?_
  refine ol_words S hK hI dX0_make_18 ?_
  refine lv_aload_n hx hb dX0_make_19 rfl (lv_at hl 1 rfl) ?_
  refine og_used S hin hK hI (ix := 27) (by decide +kernel) dX0_make_20 ?_
  refine lv_isub hx hb dX0_make_23 ?_
  refine lv_icmp_le (tgt := 31) hx hb dX0_make_24 (by decide) (fun c2 => ?_) (fun c2 => ?_)
  · have hg := cIf_te c2 hg
    refine lv_iconst (v := 0) hx hb dX0_make_31 (by decide) ?_
    refine lv_istore (lv' := [(6, .int 0), (5, .int x1), (0, .ref h0), (1, .int p1), (2, .int p2), (3, .int p3), (4, .int p4)]) hx hb dX0_make_32 hl (by decide) rfl (fun ls hl => ?_)
    refine lv_iload hx hb dX0_make_34 (lv_at hl 0 rfl) ?_
    refine lv_if_ne (tgt := 46) hx hb dX0_make_36 (by decide) (fun c3 => ?_) (fun c3 => ?_)
    · have hg := cIf_fe c3 hg
      refine lv_aload_n hx hb dX0_make_46 rfl (lv_at hl 2 rfl) ?_
      obtain ⟨σ4, eσ4, hg⟩ := bnp_e hg
      refine oc_v S hK hA hI (As := []) (rest := []) (kX0_slideTogether l G h0 h H.size F σ  σ4 eσ4) (cwV 0 hts gX0_make_X0_slideTogether rfl rfl rfl nX0_slideTogether ⟨Nat.le_of_ble_eq_true rfl, Nat.le_of_ble_eq_true rfl⟩) rfl hl.1 rfl (Nat.le_of_ble_eq_true rfl) dX0_make_47 ⟨by show 0 + 0 ≤ C; omega, by show 0 + 0 ≤ N; omega⟩ (fun H locs hI => ?_)
      refine lv_iload hx hb dX0_make_50 (lv_at hl 1 rfl) ?_
      refine lv_aload_n hx hb dX0_make_52 rfl (lv_at hl 2 rfl) ?_
      refine og_limit S hin hK hI (ix := 19) (by decide +kernel) dX0_make_53 ?_
      refine lv_aload_n hx hb dX0_make_56 rfl (lv_at hl 2 rfl) ?_
      refine og_used S hin hK hI (ix := 27) (by decide +kernel) dX0_make_57 ?_
      refine lv_isub hx hb dX0_make_60 ?_
      refine lv_icmp_le (tgt := 74) hx hb dX0_make_61 (by decide) (fun c5 => ?_) (fun c5 => ?_)
      · have hg := cIf_te c5 hg
        refine lv_iload hx hb dX0_make_74 (lv_at hl 0 rfl) ?_
        refine lv_if_eq (tgt := 90) hx hb dX0_make_76 (by decide) (fun c6 => ?_) (fun c6 => ?_)
        · have hg := cIf_te c6 hg
          refine lv_aload_n hx hb dX0_make_90 rfl (lv_at hl 2 rfl) ?_
          refine og_used S hin hK hI (ix := 27) (by decide +kernel) dX0_make_91 ?_
          obtain ⟨x7, ex7, hg⟩ := nmd_e hg
          refine wn_i ex7 ?_
          refine lv_istore (lv' := [(7, .int x7), (6, .int 0), (5, .int x1), (0, .ref h0), (1, .int p1), (2, .int p2), (3, .int p3), (4, .int p4)]) hx hb dX0_make_94 hl (by decide) rfl (fun ls hl => ?_)
          refine lv_aload_n hx hb dX0_make_96 rfl (lv_at hl 3 rfl) ?_
          refine lv_dup hx hb dX0_make_97 rfl ?_
          refine og_used S hin hK hI (ix := 27) (by decide +kernel) dX0_make_98 ?_
          refine lv_iload hx hb dX0_make_101 (lv_at hl 2 rfl) ?_
          refine lv_iadd hx hb dX0_make_103 ?_
          obtain ⟨σ8, eσ8, hg⟩ := nmd_e hg
          refine op_used S hin hK hI (ix := 27) (by decide +kernel) eσ8 dX0_make_104 (fun H locs hI => ?_)
          refine lv_aload_n hx hb dX0_make_107 rfl (lv_at hl 3 rfl) ?_
          refine lv_dup hx hb dX0_make_108 rfl ?_
          refine og_made S hin hK hI (ix := 54) (by decide +kernel) dX0_make_109 ?_
          refine lv_iconst (v := 1) hx hb dX0_make_112 (by decide) ?_
          refine lv_iadd hx hb dX0_make_113 ?_
          obtain ⟨σ9, eσ9, hg⟩ := nmd_e hg
          refine op_made S hin hK hI (ix := 54) (by decide +kernel) eσ9 dX0_make_114 (fun H locs hI => ?_)
          refine lv_aload_n hx hb dX0_make_117 rfl (lv_at hl 3 rfl) ?_
          refine og_words S hin hK hI (ix := 23) (by decide +kernel) dX0_make_118 ?_
          refine lv_iload hx hb dX0_make_121 (lv_at hl 0 rfl) ?_
          refine lv_aload_n hx hb dX0_make_123 rfl (lv_at hl 3 rfl) ?_
          refine og_used S hin hK hI (ix := 27) (by decide +kernel) dX0_make_124 ?_
          refine lv_iconst (v := 0) hx hb dX0_make_127 (by decide) ?_
          obtain ⟨c10, hg⟩ := ck_e hg
          obtain ⟨σ11, eσ11, hg⟩ := nmd_e hg
          refine ox_fill S hK hA hI c10 eσ11 gX0_make_J7_fill_fda19 hl.1 ⟨Nat.le_of_ble_eq_true rfl, Nat.le_of_ble_eq_true rfl⟩ ⟨by show (0 + 0) + 0 ≤ C; omega, by show (0 + 0) + 0 ≤ N; omega⟩ (Nat.le_of_ble_eq_true rfl) dX0_make_128 (fun H locs hI => ?_)
          refine lv_aload_n hx hb dX0_make_131 rfl (lv_at hl 3 rfl) ?_
          refine og_words S hin hK hI (ix := 23) (by decide +kernel) dX0_make_132 ?_
          refine lv_iload hx hb dX0_make_135 (lv_at hl 0 rfl) ?_
          refine lv_iconst (v := 3) hx hb dX0_make_137 (by decide) ?_
          refine lv_iadd hx hb dX0_make_138 ?_
          refine lv_iload hx hb dX0_make_139 (lv_at hl 0 rfl) ?_
          refine lv_iconst (v := 3) hx hb dX0_make_141 (by decide) ?_
          refine lv_iadd hx hb dX0_make_142 ?_
          refine lv_iload_n hx hb dX0_make_143 rfl (lv_at hl 5 rfl) ?_
          refine lv_iadd hx hb dX0_make_144 ?_
          refine lv_iconst (v := (-1)) hx hb dX0_make_145 (by decide) ?_
          obtain ⟨c12, hg⟩ := ck_e hg
          obtain ⟨σ13, eσ13, hg⟩ := nmd_e hg
          refine ox_fill S hK hA hI c12 eσ13 gX0_make_J7_fill_fda19 hl.1 ⟨Nat.le_of_ble_eq_true rfl, Nat.le_of_ble_eq_true rfl⟩ ⟨by show ((0 + 0) + 0) + 0 ≤ C; omega, by show ((0 + 0) + 0) + 0 ≤ N; omega⟩ (Nat.le_of_ble_eq_true rfl) dX0_make_146 (fun H locs hI => ?_)
          refine lv_aload_n hx hb dX0_make_149 rfl (lv_at hl 3 rfl) ?_
          refine og_words S hin hK hI (ix := 23) (by decide +kernel) dX0_make_150 ?_
          refine lv_iload hx hb dX0_make_153 (lv_at hl 0 rfl) ?_
          refine lv_iconst (v := 0) hx hb dX0_make_155 (by decide) ?_
          refine lv_iadd hx hb dX0_make_156 ?_
          refine lv_iload_n hx hb dX0_make_157 rfl (lv_at hl 4 rfl) ?_
          refine lv_iload_n hx hb dX0_make_158 rfl (lv_at hl 5 rfl) ?_
          refine lv_iload_n hx hb dX0_make_159 rfl (lv_at hl 6 rfl) ?_
          refine lv_iload hx hb dX0_make_160 (lv_at hl 2 rfl) ?_
          obtain ⟨r14, er14, hg⟩ := bnp_e hg
          refine os_i S hA hI (As := [.int p1, .int p2, .int p3, .int x1]) (rest := [.int (x7 + 0), .ref h.1]) (kX0_shapeOf l H.size F p1 p2 p3 x1 r14 er14) (va_cwS 4 hts gX0_make_X0_shapeOf rfl rfl rfl nX0_shapeOf ⟨Nat.le_of_ble_eq_true rfl, Nat.le_of_ble_eq_true rfl⟩) rfl hl.1 rfl (Nat.le_of_ble_eq_true rfl) dX0_make_162 ⟨by show (((0 + 0) + 0) + 0) + 0 ≤ C; omega, by show (((0 + 0) + 0) + 0) + 0 ≤ N; omega⟩ (fun H locs hI => ?_)
          obtain ⟨c15, hg⟩ := ck_e hg
          obtain ⟨σ16, eσ16, hg⟩ := nmd_e hg
          refine ou_words S hK hI c15 eσ16 dX0_make_165 (fun H locs hI => ?_)
          refine lv_aload_n hx hb dX0_make_166 rfl (lv_at hl 3 rfl) ?_
          refine og_words S hin hK hI (ix := 23) (by decide +kernel) dX0_make_167 ?_
          refine lv_iload hx hb dX0_make_170 (lv_at hl 0 rfl) ?_
          refine lv_iconst (v := 1) hx hb dX0_make_172 (by decide) ?_
          refine lv_iadd hx hb dX0_make_173 ?_
          refine lv_iconst (v := (-1)) hx hb dX0_make_174 (by decide) ?_
          obtain ⟨c17, hg⟩ := ck_e hg
          obtain ⟨σ18, eσ18, hg⟩ := nmd_e hg
          refine ou_words S hK hI c17 eσ18 dX0_make_175 (fun H locs hI => ?_)
          refine lv_iload hx hb dX0_make_176 (lv_at hl 0 rfl) ?_
          exact oye_i S hr hlocks hK hI rfl hg (by omega) (by omega) dX0_make_178
        · have hg := cIf_fe c6 hg
          refine lv_aload_n hx hb dX0_make_79 rfl (lv_at hl 2 rfl) ?_
          refine lv_aload_n hx hb dX0_make_80 rfl (lv_at hl 2 rfl) ?_
          refine og_used S hin hK hI (ix := 27) (by decide +kernel) dX0_make_81 ?_
          refine lv_iload hx hb dX0_make_84 (lv_at hl 1 rfl) ?_
          refine lv_iadd hx hb dX0_make_86 ?_
          rcases bndX_e hg with ⟨e19, hc19, er⟩ | ⟨a19, σ19, c19, n19, C19, N19, hc19, hg, eC, eN⟩
          · subst er
            exact oyt_vy S hK hA hZ hI hno hlocks (As := [.int ((o_us σ4) + x1)]) (rest := []) (kX0_widen l htr G h0 h H.size F σ4 ((o_us σ4) + x1) _ _ _ _ hc19) (cwV 1 hts gX0_make_X0_widen rfl rfl rfl nX0_widen ⟨Nat.le_of_ble_eq_true rfl, Nat.le_of_ble_eq_true rfl⟩) rfl hl.1 rfl (Nat.le_of_ble_eq_true rfl) dX0_make_87 ⟨by show (0 + 0) + C ≤ C; omega, by show (0 + 0) + N ≤ N; omega⟩ rfl (by omega) (by omega)
          · refine oyc_v S hK hA hZ hI (As := [.int ((o_us σ4) + x1)]) (rest := []) (kX0_widen l htr G h0 h H.size F σ4 ((o_us σ4) + x1) _ _ _ _ hc19) (cwV 1 hts gX0_make_X0_widen rfl rfl rfl nX0_widen ⟨Nat.le_of_ble_eq_true rfl, Nat.le_of_ble_eq_true rfl⟩) rfl hl.1 rfl (Nat.le_of_ble_eq_true rfl) dX0_make_87 ⟨by show (0 + 0) + c19 ≤ C; omega, by show (0 + 0) + n19 ≤ N; omega⟩ (fun hw19 hn19 H locs hI => ?_)
            have hC : ((0 + 0) + c19) + C19 ≤ C := by omega
            have hN : ((0 + 0) + n19) + N19 ≤ N := by omega
            refine lv_aload_n hx hb dX0_make_90 rfl (lv_at hl 2 rfl) ?_
            refine og_used S hin hK hI (ix := 27) (by decide +kernel) dX0_make_91 ?_
            obtain ⟨x20, ex20, hg⟩ := nmd_e hg
            refine wn_i ex20 ?_
            refine lv_istore (lv' := [(7, .int x20), (6, .int 0), (5, .int x1), (0, .ref h0), (1, .int p1), (2, .int p2), (3, .int p3), (4, .int p4)]) hx hb dX0_make_94 hl (by decide) rfl (fun ls hl => ?_)
            refine lv_aload_n hx hb dX0_make_96 rfl (lv_at hl 3 rfl) ?_
            refine lv_dup hx hb dX0_make_97 rfl ?_
            refine og_used S hin hK hI (ix := 27) (by decide +kernel) dX0_make_98 ?_
            refine lv_iload hx hb dX0_make_101 (lv_at hl 2 rfl) ?_
            refine lv_iadd hx hb dX0_make_103 ?_
            obtain ⟨σ21, eσ21, hg⟩ := nmd_e hg
            refine op_used S hin hK hI (ix := 27) (by decide +kernel) eσ21 dX0_make_104 (fun H locs hI => ?_)
            refine lv_aload_n hx hb dX0_make_107 rfl (lv_at hl 3 rfl) ?_
            refine lv_dup hx hb dX0_make_108 rfl ?_
            refine og_made S hin hK hI (ix := 54) (by decide +kernel) dX0_make_109 ?_
            refine lv_iconst (v := 1) hx hb dX0_make_112 (by decide) ?_
            refine lv_iadd hx hb dX0_make_113 ?_
            obtain ⟨σ22, eσ22, hg⟩ := nmd_e hg
            refine op_made S hin hK hI (ix := 54) (by decide +kernel) eσ22 dX0_make_114 (fun H locs hI => ?_)
            refine lv_aload_n hx hb dX0_make_117 rfl (lv_at hl 3 rfl) ?_
            refine og_words S hin hK hI (ix := 23) (by decide +kernel) dX0_make_118 ?_
            refine lv_iload hx hb dX0_make_121 (lv_at hl 0 rfl) ?_
            refine lv_aload_n hx hb dX0_make_123 rfl (lv_at hl 3 rfl) ?_
            refine og_used S hin hK hI (ix := 27) (by decide +kernel) dX0_make_124 ?_
            refine lv_iconst (v := 0) hx hb dX0_make_127 (by decide) ?_
            obtain ⟨c23, hg⟩ := ck_e hg
            obtain ⟨σ24, eσ24, hg⟩ := nmd_e hg
            refine ox_fill S hK hA hI c23 eσ24 gX0_make_J7_fill_fda19 hl.1 ⟨Nat.le_of_ble_eq_true rfl, Nat.le_of_ble_eq_true rfl⟩ ⟨by show ((0 + 0) + c19) + 0 ≤ C; omega, by show ((0 + 0) + n19) + 0 ≤ N; omega⟩ (Nat.le_of_ble_eq_true rfl) dX0_make_128 (fun H locs hI => ?_)
            refine lv_aload_n hx hb dX0_make_131 rfl (lv_at hl 3 rfl) ?_
            refine og_words S hin hK hI (ix := 23) (by decide +kernel) dX0_make_132 ?_
            refine lv_iload hx hb dX0_make_135 (lv_at hl 0 rfl) ?_
            refine lv_iconst (v := 3) hx hb dX0_make_137 (by decide) ?_
            refine lv_iadd hx hb dX0_make_138 ?_
            refine lv_iload hx hb dX0_make_139 (lv_at hl 0 rfl) ?_
            refine lv_iconst (v := 3) hx hb dX0_make_141 (by decide) ?_
            refine lv_iadd hx hb dX0_make_142 ?_
            refine lv_iload_n hx hb dX0_make_143 rfl (lv_at hl 5 rfl) ?_
            refine lv_iadd hx hb dX0_make_144 ?_
            refine lv_iconst (v := (-1)) hx hb dX0_make_145 (by decide) ?_
            obtain ⟨c25, hg⟩ := ck_e hg
            obtain ⟨σ26, eσ26, hg⟩ := nmd_e hg
            refine ox_fill S hK hA hI c25 eσ26 gX0_make_J7_fill_fda19 hl.1 ⟨Nat.le_of_ble_eq_true rfl, Nat.le_of_ble_eq_true rfl⟩ ⟨by show (((0 + 0) + c19) + 0) + 0 ≤ C; omega, by show (((0 + 0) + n19) + 0) + 0 ≤ N; omega⟩ (Nat.le_of_ble_eq_true rfl) dX0_make_146 (fun H locs hI => ?_)
            refine lv_aload_n hx hb dX0_make_149 rfl (lv_at hl 3 rfl) ?_
            refine og_words S hin hK hI (ix := 23) (by decide +kernel) dX0_make_150 ?_
            refine lv_iload hx hb dX0_make_153 (lv_at hl 0 rfl) ?_
            refine lv_iconst (v := 0) hx hb dX0_make_155 (by decide) ?_
            refine lv_iadd hx hb dX0_make_156 ?_
            refine lv_iload_n hx hb dX0_make_157 rfl (lv_at hl 4 rfl) ?_
            refine lv_iload_n hx hb dX0_make_158 rfl (lv_at hl 5 rfl) ?_
            refine lv_iload_n hx hb dX0_make_159 rfl (lv_at hl 6 rfl) ?_
            refine lv_iload hx hb dX0_make_160 (lv_at hl 2 rfl) ?_
            obtain ⟨r27, er27, hg⟩ := bnp_e hg
            refine os_i S hA hI (As := [.int p1, .int p2, .int p3, .int x1]) (rest := [.int (x20 + 0), .ref (hw19, h.2.1, hn19, h.2.2.2).1]) (kX0_shapeOf l H.size F p1 p2 p3 x1 r27 er27) (va_cwS 4 hts gX0_make_X0_shapeOf rfl rfl rfl nX0_shapeOf ⟨Nat.le_of_ble_eq_true rfl, Nat.le_of_ble_eq_true rfl⟩) rfl hl.1 rfl (Nat.le_of_ble_eq_true rfl) dX0_make_162 ⟨by show ((((0 + 0) + c19) + 0) + 0) + 0 ≤ C; omega, by show ((((0 + 0) + n19) + 0) + 0) + 0 ≤ N; omega⟩ (fun H locs hI => ?_)
            obtain ⟨c28, hg⟩ := ck_e hg
            obtain ⟨σ29, eσ29, hg⟩ := nmd_e hg
            refine ou_words S hK hI c28 eσ29 dX0_make_165 (fun H locs hI => ?_)
            refine lv_aload_n hx hb dX0_make_166 rfl (lv_at hl 3 rfl) ?_
            refine og_words S hin hK hI (ix := 23) (by decide +kernel) dX0_make_167 ?_
            refine lv_iload hx hb dX0_make_170 (lv_at hl 0 rfl) ?_
            refine lv_iconst (v := 1) hx hb dX0_make_172 (by decide) ?_
            refine lv_iadd hx hb dX0_make_173 ?_
            refine lv_iconst (v := (-1)) hx hb dX0_make_174 (by decide) ?_
            obtain ⟨c30, hg⟩ := ck_e hg
            obtain ⟨σ31, eσ31, hg⟩ := nmd_e hg
            refine ou_words S hK hI c30 eσ31 dX0_make_175 (fun H locs hI => ?_)
            refine lv_iload hx hb dX0_make_176 (lv_at hl 0 rfl) ?_
            exact oye_i S hr hlocks hK hI rfl hg (by omega) (by omega) dX0_make_178
      · have hg := cIf_fe c5 hg
        obtain ⟨e1, e2, e3, e4⟩ := x4_e hg
        subst e1; subst e2
        exact oth2_y S hK hZ hI rfl hno hlocks htr (is := 211) (tx := "full") (by decide +kernel) (by decide +kernel) (by decide +kernel) (by decide +kernel) hl.1 dX0_make_64 dX0_make_67 dX0_make_68 dX0_make_70 dX0_make_73 (Nat.le_of_ble_eq_true rfl) (Nat.le_of_ble_eq_true rfl) (by show (0 + 0) + 1 ≤ C; omega) (by show (0 + 0) + 6 ≤ N; omega) (by omega) (by omega)
    · have hg := cIf_te c3 hg
      refine lv_aload_n hx hb dX0_make_39 rfl (lv_at hl 2 rfl) ?_
      obtain ⟨r33, σ32, er33, hg⟩ := bnd_e hg
      refine oc_i S hK hA hI (As := []) (rest := []) (kX0_isStressed l G h0 h H.size F σ  r33 σ32 er33) (cwV 0 hts gX0_make_X0_isStressed rfl rfl rfl nX0_isStressed ⟨Nat.le_of_ble_eq_true rfl, Nat.le_of_ble_eq_true rfl⟩) rfl hl.1 rfl (Nat.le_of_ble_eq_true rfl) dX0_make_40 ⟨by show 0 + 0 ≤ C; omega, by show 0 + 0 ≤ N; omega⟩ (fun H locs hI => ?_)
      refine lv_if_eq (tgt := 50) hx hb dX0_make_43 (by decide) (fun c34 => ?_) (fun c34 => ?_)
      · have hg := cIf_te c34 hg
        refine lv_iload hx hb dX0_make_50 (lv_at hl 1 rfl) ?_
        refine lv_aload_n hx hb dX0_make_52 rfl (lv_at hl 2 rfl) ?_
        refine og_limit S hin hK hI (ix := 19) (by decide +kernel) dX0_make_53 ?_
        refine lv_aload_n hx hb dX0_make_56 rfl (lv_at hl 2 rfl) ?_
        refine og_used S hin hK hI (ix := 27) (by decide +kernel) dX0_make_57 ?_
        refine lv_isub hx hb dX0_make_60 ?_
        refine lv_icmp_le (tgt := 74) hx hb dX0_make_61 (by decide) (fun c35 => ?_) (fun c35 => ?_)
        · have hg := cIf_te c35 hg
          refine lv_iload hx hb dX0_make_74 (lv_at hl 0 rfl) ?_
          refine lv_if_eq (tgt := 90) hx hb dX0_make_76 (by decide) (fun c36 => ?_) (fun c36 => ?_)
          · have hg := cIf_te c36 hg
            refine lv_aload_n hx hb dX0_make_90 rfl (lv_at hl 2 rfl) ?_
            refine og_used S hin hK hI (ix := 27) (by decide +kernel) dX0_make_91 ?_
            obtain ⟨x37, ex37, hg⟩ := nmd_e hg
            refine wn_i ex37 ?_
            refine lv_istore (lv' := [(7, .int x37), (6, .int 0), (5, .int x1), (0, .ref h0), (1, .int p1), (2, .int p2), (3, .int p3), (4, .int p4)]) hx hb dX0_make_94 hl (by decide) rfl (fun ls hl => ?_)
            refine lv_aload_n hx hb dX0_make_96 rfl (lv_at hl 3 rfl) ?_
            refine lv_dup hx hb dX0_make_97 rfl ?_
            refine og_used S hin hK hI (ix := 27) (by decide +kernel) dX0_make_98 ?_
            refine lv_iload hx hb dX0_make_101 (lv_at hl 2 rfl) ?_
            refine lv_iadd hx hb dX0_make_103 ?_
            obtain ⟨σ38, eσ38, hg⟩ := nmd_e hg
            refine op_used S hin hK hI (ix := 27) (by decide +kernel) eσ38 dX0_make_104 (fun H locs hI => ?_)
            refine lv_aload_n hx hb dX0_make_107 rfl (lv_at hl 3 rfl) ?_
            refine lv_dup hx hb dX0_make_108 rfl ?_
            refine og_made S hin hK hI (ix := 54) (by decide +kernel) dX0_make_109 ?_
            refine lv_iconst (v := 1) hx hb dX0_make_112 (by decide) ?_
            refine lv_iadd hx hb dX0_make_113 ?_
            obtain ⟨σ39, eσ39, hg⟩ := nmd_e hg
            refine op_made S hin hK hI (ix := 54) (by decide +kernel) eσ39 dX0_make_114 (fun H locs hI => ?_)
            refine lv_aload_n hx hb dX0_make_117 rfl (lv_at hl 3 rfl) ?_
            refine og_words S hin hK hI (ix := 23) (by decide +kernel) dX0_make_118 ?_
            refine lv_iload hx hb dX0_make_121 (lv_at hl 0 rfl) ?_
            refine lv_aload_n hx hb dX0_make_123 rfl (lv_at hl 3 rfl) ?_
            refine og_used S hin hK hI (ix := 27) (by decide +kernel) dX0_make_124 ?_
            refine lv_iconst (v := 0) hx hb dX0_make_127 (by decide) ?_
            obtain ⟨c40, hg⟩ := ck_e hg
            obtain ⟨σ41, eσ41, hg⟩ := nmd_e hg
            refine ox_fill S hK hA hI c40 eσ41 gX0_make_J7_fill_fda19 hl.1 ⟨Nat.le_of_ble_eq_true rfl, Nat.le_of_ble_eq_true rfl⟩ ⟨by show (0 + 0) + 0 ≤ C; omega, by show (0 + 0) + 0 ≤ N; omega⟩ (Nat.le_of_ble_eq_true rfl) dX0_make_128 (fun H locs hI => ?_)
            refine lv_aload_n hx hb dX0_make_131 rfl (lv_at hl 3 rfl) ?_
            refine og_words S hin hK hI (ix := 23) (by decide +kernel) dX0_make_132 ?_
            refine lv_iload hx hb dX0_make_135 (lv_at hl 0 rfl) ?_
            refine lv_iconst (v := 3) hx hb dX0_make_137 (by decide) ?_
            refine lv_iadd hx hb dX0_make_138 ?_
            refine lv_iload hx hb dX0_make_139 (lv_at hl 0 rfl) ?_
            refine lv_iconst (v := 3) hx hb dX0_make_141 (by decide) ?_
            refine lv_iadd hx hb dX0_make_142 ?_
            refine lv_iload_n hx hb dX0_make_143 rfl (lv_at hl 5 rfl) ?_
            refine lv_iadd hx hb dX0_make_144 ?_
            refine lv_iconst (v := (-1)) hx hb dX0_make_145 (by decide) ?_
            obtain ⟨c42, hg⟩ := ck_e hg
            obtain ⟨σ43, eσ43, hg⟩ := nmd_e hg
            refine ox_fill S hK hA hI c42 eσ43 gX0_make_J7_fill_fda19 hl.1 ⟨Nat.le_of_ble_eq_true rfl, Nat.le_of_ble_eq_true rfl⟩ ⟨by show ((0 + 0) + 0) + 0 ≤ C; omega, by show ((0 + 0) + 0) + 0 ≤ N; omega⟩ (Nat.le_of_ble_eq_true rfl) dX0_make_146 (fun H locs hI => ?_)
            refine lv_aload_n hx hb dX0_make_149 rfl (lv_at hl 3 rfl) ?_
            refine og_words S hin hK hI (ix := 23) (by decide +kernel) dX0_make_150 ?_
            refine lv_iload hx hb dX0_make_153 (lv_at hl 0 rfl) ?_
            refine lv_iconst (v := 0) hx hb dX0_make_155 (by decide) ?_
            refine lv_iadd hx hb dX0_make_156 ?_
            refine lv_iload_n hx hb dX0_make_157 rfl (lv_at hl 4 rfl) ?_
            refine lv_iload_n hx hb dX0_make_158 rfl (lv_at hl 5 rfl) ?_
            refine lv_iload_n hx hb dX0_make_159 rfl (lv_at hl 6 rfl) ?_
            refine lv_iload hx hb dX0_make_160 (lv_at hl 2 rfl) ?_
            obtain ⟨r44, er44, hg⟩ := bnp_e hg
            refine os_i S hA hI (As := [.int p1, .int p2, .int p3, .int x1]) (rest := [.int (x37 + 0), .ref h.1]) (kX0_shapeOf l H.size F p1 p2 p3 x1 r44 er44) (va_cwS 4 hts gX0_make_X0_shapeOf rfl rfl rfl nX0_shapeOf ⟨Nat.le_of_ble_eq_true rfl, Nat.le_of_ble_eq_true rfl⟩) rfl hl.1 rfl (Nat.le_of_ble_eq_true rfl) dX0_make_162 ⟨by show (((0 + 0) + 0) + 0) + 0 ≤ C; omega, by show (((0 + 0) + 0) + 0) + 0 ≤ N; omega⟩ (fun H locs hI => ?_)
            obtain ⟨c45, hg⟩ := ck_e hg
            obtain ⟨σ46, eσ46, hg⟩ := nmd_e hg
            refine ou_words S hK hI c45 eσ46 dX0_make_165 (fun H locs hI => ?_)
            refine lv_aload_n hx hb dX0_make_166 rfl (lv_at hl 3 rfl) ?_
            refine og_words S hin hK hI (ix := 23) (by decide +kernel) dX0_make_167 ?_
            refine lv_iload hx hb dX0_make_170 (lv_at hl 0 rfl) ?_
            refine lv_iconst (v := 1) hx hb dX0_make_172 (by decide) ?_
            refine lv_iadd hx hb dX0_make_173 ?_
            refine lv_iconst (v := (-1)) hx hb dX0_make_174 (by decide) ?_
            obtain ⟨c47, hg⟩ := ck_e hg
            obtain ⟨σ48, eσ48, hg⟩ := nmd_e hg
            refine ou_words S hK hI c47 eσ48 dX0_make_175 (fun H locs hI => ?_)
            refine lv_iload hx hb dX0_make_176 (lv_at hl 0 rfl) ?_
            exact oye_i S hr hlocks hK hI rfl hg (by omega) (by omega) dX0_make_178
          · have hg := cIf_fe c36 hg
            refine lv_aload_n hx hb dX0_make_79 rfl (lv_at hl 2 rfl) ?_
            refine lv_aload_n hx hb dX0_make_80 rfl (lv_at hl 2 rfl) ?_
            refine og_used S hin hK hI (ix := 27) (by decide +kernel) dX0_make_81 ?_
            refine lv_iload hx hb dX0_make_84 (lv_at hl 1 rfl) ?_
            refine lv_iadd hx hb dX0_make_86 ?_
            rcases bndX_e hg with ⟨e49, hc49, er⟩ | ⟨a49, σ49, c49, n49, C49, N49, hc49, hg, eC, eN⟩
            · subst er
              exact oyt_vy S hK hA hZ hI hno hlocks (As := [.int ((o_us σ32) + x1)]) (rest := []) (kX0_widen l htr G h0 h H.size F σ32 ((o_us σ32) + x1) _ _ _ _ hc49) (cwV 1 hts gX0_make_X0_widen rfl rfl rfl nX0_widen ⟨Nat.le_of_ble_eq_true rfl, Nat.le_of_ble_eq_true rfl⟩) rfl hl.1 rfl (Nat.le_of_ble_eq_true rfl) dX0_make_87 ⟨by show (0 + 0) + C ≤ C; omega, by show (0 + 0) + N ≤ N; omega⟩ rfl (by omega) (by omega)
            · refine oyc_v S hK hA hZ hI (As := [.int ((o_us σ32) + x1)]) (rest := []) (kX0_widen l htr G h0 h H.size F σ32 ((o_us σ32) + x1) _ _ _ _ hc49) (cwV 1 hts gX0_make_X0_widen rfl rfl rfl nX0_widen ⟨Nat.le_of_ble_eq_true rfl, Nat.le_of_ble_eq_true rfl⟩) rfl hl.1 rfl (Nat.le_of_ble_eq_true rfl) dX0_make_87 ⟨by show (0 + 0) + c49 ≤ C; omega, by show (0 + 0) + n49 ≤ N; omega⟩ (fun hw49 hn49 H locs hI => ?_)
              have hC : ((0 + 0) + c49) + C49 ≤ C := by omega
              have hN : ((0 + 0) + n49) + N49 ≤ N := by omega
              refine lv_aload_n hx hb dX0_make_90 rfl (lv_at hl 2 rfl) ?_
              refine og_used S hin hK hI (ix := 27) (by decide +kernel) dX0_make_91 ?_
              obtain ⟨x50, ex50, hg⟩ := nmd_e hg
              refine wn_i ex50 ?_
              refine lv_istore (lv' := [(7, .int x50), (6, .int 0), (5, .int x1), (0, .ref h0), (1, .int p1), (2, .int p2), (3, .int p3), (4, .int p4)]) hx hb dX0_make_94 hl (by decide) rfl (fun ls hl => ?_)
              refine lv_aload_n hx hb dX0_make_96 rfl (lv_at hl 3 rfl) ?_
              refine lv_dup hx hb dX0_make_97 rfl ?_
              refine og_used S hin hK hI (ix := 27) (by decide +kernel) dX0_make_98 ?_
              refine lv_iload hx hb dX0_make_101 (lv_at hl 2 rfl) ?_
              refine lv_iadd hx hb dX0_make_103 ?_
              obtain ⟨σ51, eσ51, hg⟩ := nmd_e hg
              refine op_used S hin hK hI (ix := 27) (by decide +kernel) eσ51 dX0_make_104 (fun H locs hI => ?_)
              refine lv_aload_n hx hb dX0_make_107 rfl (lv_at hl 3 rfl) ?_
              refine lv_dup hx hb dX0_make_108 rfl ?_
              refine og_made S hin hK hI (ix := 54) (by decide +kernel) dX0_make_109 ?_
              refine lv_iconst (v := 1) hx hb dX0_make_112 (by decide) ?_
              refine lv_iadd hx hb dX0_make_113 ?_
              obtain ⟨σ52, eσ52, hg⟩ := nmd_e hg
              refine op_made S hin hK hI (ix := 54) (by decide +kernel) eσ52 dX0_make_114 (fun H locs hI => ?_)
              refine lv_aload_n hx hb dX0_make_117 rfl (lv_at hl 3 rfl) ?_
              refine og_words S hin hK hI (ix := 23) (by decide +kernel) dX0_make_118 ?_
              refine lv_iload hx hb dX0_make_121 (lv_at hl 0 rfl) ?_
              refine lv_aload_n hx hb dX0_make_123 rfl (lv_at hl 3 rfl) ?_
              refine og_used S hin hK hI (ix := 27) (by decide +kernel) dX0_make_124 ?_
              refine lv_iconst (v := 0) hx hb dX0_make_127 (by decide) ?_
              obtain ⟨c53, hg⟩ := ck_e hg
              obtain ⟨σ54, eσ54, hg⟩ := nmd_e hg
              refine ox_fill S hK hA hI c53 eσ54 gX0_make_J7_fill_fda19 hl.1 ⟨Nat.le_of_ble_eq_true rfl, Nat.le_of_ble_eq_true rfl⟩ ⟨by show ((0 + 0) + c49) + 0 ≤ C; omega, by show ((0 + 0) + n49) + 0 ≤ N; omega⟩ (Nat.le_of_ble_eq_true rfl) dX0_make_128 (fun H locs hI => ?_)
              refine lv_aload_n hx hb dX0_make_131 rfl (lv_at hl 3 rfl) ?_
              refine og_words S hin hK hI (ix := 23) (by decide +kernel) dX0_make_132 ?_
              refine lv_iload hx hb dX0_make_135 (lv_at hl 0 rfl) ?_
              refine lv_iconst (v := 3) hx hb dX0_make_137 (by decide) ?_
              refine lv_iadd hx hb dX0_make_138 ?_
              refine lv_iload hx hb dX0_make_139 (lv_at hl 0 rfl) ?_
              refine lv_iconst (v := 3) hx hb dX0_make_141 (by decide) ?_
              refine lv_iadd hx hb dX0_make_142 ?_
              refine lv_iload_n hx hb dX0_make_143 rfl (lv_at hl 5 rfl) ?_
              refine lv_iadd hx hb dX0_make_144 ?_
              refine lv_iconst (v := (-1)) hx hb dX0_make_145 (by decide) ?_
              obtain ⟨c55, hg⟩ := ck_e hg
              obtain ⟨σ56, eσ56, hg⟩ := nmd_e hg
              refine ox_fill S hK hA hI c55 eσ56 gX0_make_J7_fill_fda19 hl.1 ⟨Nat.le_of_ble_eq_true rfl, Nat.le_of_ble_eq_true rfl⟩ ⟨by show (((0 + 0) + c49) + 0) + 0 ≤ C; omega, by show (((0 + 0) + n49) + 0) + 0 ≤ N; omega⟩ (Nat.le_of_ble_eq_true rfl) dX0_make_146 (fun H locs hI => ?_)
              refine lv_aload_n hx hb dX0_make_149 rfl (lv_at hl 3 rfl) ?_
              refine og_words S hin hK hI (ix := 23) (by decide +kernel) dX0_make_150 ?_
              refine lv_iload hx hb dX0_make_153 (lv_at hl 0 rfl) ?_
              refine lv_iconst (v := 0) hx hb dX0_make_155 (by decide) ?_
              refine lv_iadd hx hb dX0_make_156 ?_
              refine lv_iload_n hx hb dX0_make_157 rfl (lv_at hl 4 rfl) ?_
              refine lv_iload_n hx hb dX0_make_158 rfl (lv_at hl 5 rfl) ?_
              refine lv_iload_n hx hb dX0_make_159 rfl (lv_at hl 6 rfl) ?_
              refine lv_iload hx hb dX0_make_160 (lv_at hl 2 rfl) ?_
              obtain ⟨r57, er57, hg⟩ := bnp_e hg
              refine os_i S hA hI (As := [.int p1, .int p2, .int p3, .int x1]) (rest := [.int (x50 + 0), .ref (hw49, h.2.1, hn49, h.2.2.2).1]) (kX0_shapeOf l H.size F p1 p2 p3 x1 r57 er57) (va_cwS 4 hts gX0_make_X0_shapeOf rfl rfl rfl nX0_shapeOf ⟨Nat.le_of_ble_eq_true rfl, Nat.le_of_ble_eq_true rfl⟩) rfl hl.1 rfl (Nat.le_of_ble_eq_true rfl) dX0_make_162 ⟨by show ((((0 + 0) + c49) + 0) + 0) + 0 ≤ C; omega, by show ((((0 + 0) + n49) + 0) + 0) + 0 ≤ N; omega⟩ (fun H locs hI => ?_)
              obtain ⟨c58, hg⟩ := ck_e hg
              obtain ⟨σ59, eσ59, hg⟩ := nmd_e hg
              refine ou_words S hK hI c58 eσ59 dX0_make_165 (fun H locs hI => ?_)
              refine lv_aload_n hx hb dX0_make_166 rfl (lv_at hl 3 rfl) ?_
              refine og_words S hin hK hI (ix := 23) (by decide +kernel) dX0_make_167 ?_
              refine lv_iload hx hb dX0_make_170 (lv_at hl 0 rfl) ?_
              refine lv_iconst (v := 1) hx hb dX0_make_172 (by decide) ?_
              refine lv_iadd hx hb dX0_make_173 ?_
              refine lv_iconst (v := (-1)) hx hb dX0_make_174 (by decide) ?_
              obtain ⟨c60, hg⟩ := ck_e hg
              obtain ⟨σ61, eσ61, hg⟩ := nmd_e hg
              refine ou_words S hK hI c60 eσ61 dX0_make_175 (fun H locs hI => ?_)
              refine lv_iload hx hb dX0_make_176 (lv_at hl 0 rfl) ?_
              exact oye_i S hr hlocks hK hI rfl hg (by omega) (by omega) dX0_make_178
        · have hg := cIf_fe c35 hg
          obtain ⟨e1, e2, e3, e4⟩ := x4_e hg
          subst e1; subst e2
          exact oth2_y S hK hZ hI rfl hno hlocks htr (is := 211) (tx := "full") (by decide +kernel) (by decide +kernel) (by decide +kernel) (by decide +kernel) hl.1 dX0_make_64 dX0_make_67 dX0_make_68 dX0_make_70 dX0_make_73 (Nat.le_of_ble_eq_true rfl) (Nat.le_of_ble_eq_true rfl) (by show (0 + 0) + 1 ≤ C; omega) (by show (0 + 0) + 6 ≤ N; omega) (by omega) (by omega)
      · have hg := cIf_fe c34 hg
        refine lv_aload_n hx hb dX0_make_46 rfl (lv_at hl 2 rfl) ?_
        obtain ⟨σ62, eσ62, hg⟩ := bnp_e hg
        refine oc_v S hK hA hI (As := []) (rest := []) (kX0_slideTogether l G h0 h H.size F σ32  σ62 eσ62) (cwV 0 hts gX0_make_X0_slideTogether rfl rfl rfl nX0_slideTogether ⟨Nat.le_of_ble_eq_true rfl, Nat.le_of_ble_eq_true rfl⟩) rfl hl.1 rfl (Nat.le_of_ble_eq_true rfl) dX0_make_47 ⟨by show (0 + 0) + 0 ≤ C; omega, by show (0 + 0) + 0 ≤ N; omega⟩ (fun H locs hI => ?_)
        refine lv_iload hx hb dX0_make_50 (lv_at hl 1 rfl) ?_
        refine lv_aload_n hx hb dX0_make_52 rfl (lv_at hl 2 rfl) ?_
        refine og_limit S hin hK hI (ix := 19) (by decide +kernel) dX0_make_53 ?_
        refine lv_aload_n hx hb dX0_make_56 rfl (lv_at hl 2 rfl) ?_
        refine og_used S hin hK hI (ix := 27) (by decide +kernel) dX0_make_57 ?_
        refine lv_isub hx hb dX0_make_60 ?_
        refine lv_icmp_le (tgt := 74) hx hb dX0_make_61 (by decide) (fun c63 => ?_) (fun c63 => ?_)
        · have hg := cIf_te c63 hg
          refine lv_iload hx hb dX0_make_74 (lv_at hl 0 rfl) ?_
          refine lv_if_eq (tgt := 90) hx hb dX0_make_76 (by decide) (fun c64 => ?_) (fun c64 => ?_)
          · have hg := cIf_te c64 hg
            refine lv_aload_n hx hb dX0_make_90 rfl (lv_at hl 2 rfl) ?_
            refine og_used S hin hK hI (ix := 27) (by decide +kernel) dX0_make_91 ?_
            obtain ⟨x65, ex65, hg⟩ := nmd_e hg
            refine wn_i ex65 ?_
            refine lv_istore (lv' := [(7, .int x65), (6, .int 0), (5, .int x1), (0, .ref h0), (1, .int p1), (2, .int p2), (3, .int p3), (4, .int p4)]) hx hb dX0_make_94 hl (by decide) rfl (fun ls hl => ?_)
            refine lv_aload_n hx hb dX0_make_96 rfl (lv_at hl 3 rfl) ?_
            refine lv_dup hx hb dX0_make_97 rfl ?_
            refine og_used S hin hK hI (ix := 27) (by decide +kernel) dX0_make_98 ?_
            refine lv_iload hx hb dX0_make_101 (lv_at hl 2 rfl) ?_
            refine lv_iadd hx hb dX0_make_103 ?_
            obtain ⟨σ66, eσ66, hg⟩ := nmd_e hg
            refine op_used S hin hK hI (ix := 27) (by decide +kernel) eσ66 dX0_make_104 (fun H locs hI => ?_)
            refine lv_aload_n hx hb dX0_make_107 rfl (lv_at hl 3 rfl) ?_
            refine lv_dup hx hb dX0_make_108 rfl ?_
            refine og_made S hin hK hI (ix := 54) (by decide +kernel) dX0_make_109 ?_
            refine lv_iconst (v := 1) hx hb dX0_make_112 (by decide) ?_
            refine lv_iadd hx hb dX0_make_113 ?_
            obtain ⟨σ67, eσ67, hg⟩ := nmd_e hg
            refine op_made S hin hK hI (ix := 54) (by decide +kernel) eσ67 dX0_make_114 (fun H locs hI => ?_)
            refine lv_aload_n hx hb dX0_make_117 rfl (lv_at hl 3 rfl) ?_
            refine og_words S hin hK hI (ix := 23) (by decide +kernel) dX0_make_118 ?_
            refine lv_iload hx hb dX0_make_121 (lv_at hl 0 rfl) ?_
            refine lv_aload_n hx hb dX0_make_123 rfl (lv_at hl 3 rfl) ?_
            refine og_used S hin hK hI (ix := 27) (by decide +kernel) dX0_make_124 ?_
            refine lv_iconst (v := 0) hx hb dX0_make_127 (by decide) ?_
            obtain ⟨c68, hg⟩ := ck_e hg
            obtain ⟨σ69, eσ69, hg⟩ := nmd_e hg
            refine ox_fill S hK hA hI c68 eσ69 gX0_make_J7_fill_fda19 hl.1 ⟨Nat.le_of_ble_eq_true rfl, Nat.le_of_ble_eq_true rfl⟩ ⟨by show ((0 + 0) + 0) + 0 ≤ C; omega, by show ((0 + 0) + 0) + 0 ≤ N; omega⟩ (Nat.le_of_ble_eq_true rfl) dX0_make_128 (fun H locs hI => ?_)
            refine lv_aload_n hx hb dX0_make_131 rfl (lv_at hl 3 rfl) ?_
            refine og_words S hin hK hI (ix := 23) (by decide +kernel) dX0_make_132 ?_
            refine lv_iload hx hb dX0_make_135 (lv_at hl 0 rfl) ?_
            refine lv_iconst (v := 3) hx hb dX0_make_137 (by decide) ?_
            refine lv_iadd hx hb dX0_make_138 ?_
            refine lv_iload hx hb dX0_make_139 (lv_at hl 0 rfl) ?_
            refine lv_iconst (v := 3) hx hb dX0_make_141 (by decide) ?_
            refine lv_iadd hx hb dX0_make_142 ?_
            refine lv_iload_n hx hb dX0_make_143 rfl (lv_at hl 5 rfl) ?_
            refine lv_iadd hx hb dX0_make_144 ?_
            refine lv_iconst (v := (-1)) hx hb dX0_make_145 (by decide) ?_
            obtain ⟨c70, hg⟩ := ck_e hg
            obtain ⟨σ71, eσ71, hg⟩ := nmd_e hg
            refine ox_fill S hK hA hI c70 eσ71 gX0_make_J7_fill_fda19 hl.1 ⟨Nat.le_of_ble_eq_true rfl, Nat.le_of_ble_eq_true rfl⟩ ⟨by show (((0 + 0) + 0) + 0) + 0 ≤ C; omega, by show (((0 + 0) + 0) + 0) + 0 ≤ N; omega⟩ (Nat.le_of_ble_eq_true rfl) dX0_make_146 (fun H locs hI => ?_)
            refine lv_aload_n hx hb dX0_make_149 rfl (lv_at hl 3 rfl) ?_
            refine og_words S hin hK hI (ix := 23) (by decide +kernel) dX0_make_150 ?_
            refine lv_iload hx hb dX0_make_153 (lv_at hl 0 rfl) ?_
            refine lv_iconst (v := 0) hx hb dX0_make_155 (by decide) ?_
            refine lv_iadd hx hb dX0_make_156 ?_
            refine lv_iload_n hx hb dX0_make_157 rfl (lv_at hl 4 rfl) ?_
            refine lv_iload_n hx hb dX0_make_158 rfl (lv_at hl 5 rfl) ?_
            refine lv_iload_n hx hb dX0_make_159 rfl (lv_at hl 6 rfl) ?_
            refine lv_iload hx hb dX0_make_160 (lv_at hl 2 rfl) ?_
            obtain ⟨r72, er72, hg⟩ := bnp_e hg
            refine os_i S hA hI (As := [.int p1, .int p2, .int p3, .int x1]) (rest := [.int (x65 + 0), .ref h.1]) (kX0_shapeOf l H.size F p1 p2 p3 x1 r72 er72) (va_cwS 4 hts gX0_make_X0_shapeOf rfl rfl rfl nX0_shapeOf ⟨Nat.le_of_ble_eq_true rfl, Nat.le_of_ble_eq_true rfl⟩) rfl hl.1 rfl (Nat.le_of_ble_eq_true rfl) dX0_make_162 ⟨by show ((((0 + 0) + 0) + 0) + 0) + 0 ≤ C; omega, by show ((((0 + 0) + 0) + 0) + 0) + 0 ≤ N; omega⟩ (fun H locs hI => ?_)
            obtain ⟨c73, hg⟩ := ck_e hg
            obtain ⟨σ74, eσ74, hg⟩ := nmd_e hg
            refine ou_words S hK hI c73 eσ74 dX0_make_165 (fun H locs hI => ?_)
            refine lv_aload_n hx hb dX0_make_166 rfl (lv_at hl 3 rfl) ?_
            refine og_words S hin hK hI (ix := 23) (by decide +kernel) dX0_make_167 ?_
            refine lv_iload hx hb dX0_make_170 (lv_at hl 0 rfl) ?_
            refine lv_iconst (v := 1) hx hb dX0_make_172 (by decide) ?_
            refine lv_iadd hx hb dX0_make_173 ?_
            refine lv_iconst (v := (-1)) hx hb dX0_make_174 (by decide) ?_
            obtain ⟨c75, hg⟩ := ck_e hg
            obtain ⟨σ76, eσ76, hg⟩ := nmd_e hg
            refine ou_words S hK hI c75 eσ76 dX0_make_175 (fun H locs hI => ?_)
            refine lv_iload hx hb dX0_make_176 (lv_at hl 0 rfl) ?_
            exact oye_i S hr hlocks hK hI rfl hg (by omega) (by omega) dX0_make_178
          · have hg := cIf_fe c64 hg
            refine lv_aload_n hx hb dX0_make_79 rfl (lv_at hl 2 rfl) ?_
            refine lv_aload_n hx hb dX0_make_80 rfl (lv_at hl 2 rfl) ?_
            refine og_used S hin hK hI (ix := 27) (by decide +kernel) dX0_make_81 ?_
            refine lv_iload hx hb dX0_make_84 (lv_at hl 1 rfl) ?_
            refine lv_iadd hx hb dX0_make_86 ?_
            rcases bndX_e hg with ⟨e77, hc77, er⟩ | ⟨a77, σ77, c77, n77, C77, N77, hc77, hg, eC, eN⟩
            · subst er
              exact oyt_vy S hK hA hZ hI hno hlocks (As := [.int ((o_us σ62) + x1)]) (rest := []) (kX0_widen l htr G h0 h H.size F σ62 ((o_us σ62) + x1) _ _ _ _ hc77) (cwV 1 hts gX0_make_X0_widen rfl rfl rfl nX0_widen ⟨Nat.le_of_ble_eq_true rfl, Nat.le_of_ble_eq_true rfl⟩) rfl hl.1 rfl (Nat.le_of_ble_eq_true rfl) dX0_make_87 ⟨by show ((0 + 0) + 0) + C ≤ C; omega, by show ((0 + 0) + 0) + N ≤ N; omega⟩ rfl (by omega) (by omega)
            · refine oyc_v S hK hA hZ hI (As := [.int ((o_us σ62) + x1)]) (rest := []) (kX0_widen l htr G h0 h H.size F σ62 ((o_us σ62) + x1) _ _ _ _ hc77) (cwV 1 hts gX0_make_X0_widen rfl rfl rfl nX0_widen ⟨Nat.le_of_ble_eq_true rfl, Nat.le_of_ble_eq_true rfl⟩) rfl hl.1 rfl (Nat.le_of_ble_eq_true rfl) dX0_make_87 ⟨by show ((0 + 0) + 0) + c77 ≤ C; omega, by show ((0 + 0) + 0) + n77 ≤ N; omega⟩ (fun hw77 hn77 H locs hI => ?_)
              have hC : (((0 + 0) + 0) + c77) + C77 ≤ C := by omega
              have hN : (((0 + 0) + 0) + n77) + N77 ≤ N := by omega
              refine lv_aload_n hx hb dX0_make_90 rfl (lv_at hl 2 rfl) ?_
              refine og_used S hin hK hI (ix := 27) (by decide +kernel) dX0_make_91 ?_
              obtain ⟨x78, ex78, hg⟩ := nmd_e hg
              refine wn_i ex78 ?_
              refine lv_istore (lv' := [(7, .int x78), (6, .int 0), (5, .int x1), (0, .ref h0), (1, .int p1), (2, .int p2), (3, .int p3), (4, .int p4)]) hx hb dX0_make_94 hl (by decide) rfl (fun ls hl => ?_)
              refine lv_aload_n hx hb dX0_make_96 rfl (lv_at hl 3 rfl) ?_
              refine lv_dup hx hb dX0_make_97 rfl ?_
              refine og_used S hin hK hI (ix := 27) (by decide +kernel) dX0_make_98 ?_
              refine lv_iload hx hb dX0_make_101 (lv_at hl 2 rfl) ?_
              refine lv_iadd hx hb dX0_make_103 ?_
              obtain ⟨σ79, eσ79, hg⟩ := nmd_e hg
              refine op_used S hin hK hI (ix := 27) (by decide +kernel) eσ79 dX0_make_104 (fun H locs hI => ?_)
              refine lv_aload_n hx hb dX0_make_107 rfl (lv_at hl 3 rfl) ?_
              refine lv_dup hx hb dX0_make_108 rfl ?_
              refine og_made S hin hK hI (ix := 54) (by decide +kernel) dX0_make_109 ?_
              refine lv_iconst (v := 1) hx hb dX0_make_112 (by decide) ?_
              refine lv_iadd hx hb dX0_make_113 ?_
              obtain ⟨σ80, eσ80, hg⟩ := nmd_e hg
              refine op_made S hin hK hI (ix := 54) (by decide +kernel) eσ80 dX0_make_114 (fun H locs hI => ?_)
              refine lv_aload_n hx hb dX0_make_117 rfl (lv_at hl 3 rfl) ?_
              refine og_words S hin hK hI (ix := 23) (by decide +kernel) dX0_make_118 ?_
              refine lv_iload hx hb dX0_make_121 (lv_at hl 0 rfl) ?_
              refine lv_aload_n hx hb dX0_make_123 rfl (lv_at hl 3 rfl) ?_
              refine og_used S hin hK hI (ix := 27) (by decide +kernel) dX0_make_124 ?_
              refine lv_iconst (v := 0) hx hb dX0_make_127 (by decide) ?_
              obtain ⟨c81, hg⟩ := ck_e hg
              obtain ⟨σ82, eσ82, hg⟩ := nmd_e hg
              refine ox_fill S hK hA hI c81 eσ82 gX0_make_J7_fill_fda19 hl.1 ⟨Nat.le_of_ble_eq_true rfl, Nat.le_of_ble_eq_true rfl⟩ ⟨by show (((0 + 0) + 0) + c77) + 0 ≤ C; omega, by show (((0 + 0) + 0) + n77) + 0 ≤ N; omega⟩ (Nat.le_of_ble_eq_true rfl) dX0_make_128 (fun H locs hI => ?_)
              refine lv_aload_n hx hb dX0_make_131 rfl (lv_at hl 3 rfl) ?_
              refine og_words S hin hK hI (ix := 23) (by decide +kernel) dX0_make_132 ?_
              refine lv_iload hx hb dX0_make_135 (lv_at hl 0 rfl) ?_
              refine lv_iconst (v := 3) hx hb dX0_make_137 (by decide) ?_
              refine lv_iadd hx hb dX0_make_138 ?_
              refine lv_iload hx hb dX0_make_139 (lv_at hl 0 rfl) ?_
              refine lv_iconst (v := 3) hx hb dX0_make_141 (by decide) ?_
              refine lv_iadd hx hb dX0_make_142 ?_
              refine lv_iload_n hx hb dX0_make_143 rfl (lv_at hl 5 rfl) ?_
              refine lv_iadd hx hb dX0_make_144 ?_
              refine lv_iconst (v := (-1)) hx hb dX0_make_145 (by decide) ?_
              obtain ⟨c83, hg⟩ := ck_e hg
              obtain ⟨σ84, eσ84, hg⟩ := nmd_e hg
              refine ox_fill S hK hA hI c83 eσ84 gX0_make_J7_fill_fda19 hl.1 ⟨Nat.le_of_ble_eq_true rfl, Nat.le_of_ble_eq_true rfl⟩ ⟨by show ((((0 + 0) + 0) + c77) + 0) + 0 ≤ C; omega, by show ((((0 + 0) + 0) + n77) + 0) + 0 ≤ N; omega⟩ (Nat.le_of_ble_eq_true rfl) dX0_make_146 (fun H locs hI => ?_)
              refine lv_aload_n hx hb dX0_make_149 rfl (lv_at hl 3 rfl) ?_
              refine og_words S hin hK hI (ix := 23) (by decide +kernel) dX0_make_150 ?_
              refine lv_iload hx hb dX0_make_153 (lv_at hl 0 rfl) ?_
              refine lv_iconst (v := 0) hx hb dX0_make_155 (by decide) ?_
              refine lv_iadd hx hb dX0_make_156 ?_
              refine lv_iload_n hx hb dX0_make_157 rfl (lv_at hl 4 rfl) ?_
              refine lv_iload_n hx hb dX0_make_158 rfl (lv_at hl 5 rfl) ?_
              refine lv_iload_n hx hb dX0_make_159 rfl (lv_at hl 6 rfl) ?_
              refine lv_iload hx hb dX0_make_160 (lv_at hl 2 rfl) ?_
              obtain ⟨r85, er85, hg⟩ := bnp_e hg
              refine os_i S hA hI (As := [.int p1, .int p2, .int p3, .int x1]) (rest := [.int (x78 + 0), .ref (hw77, h.2.1, hn77, h.2.2.2).1]) (kX0_shapeOf l H.size F p1 p2 p3 x1 r85 er85) (va_cwS 4 hts gX0_make_X0_shapeOf rfl rfl rfl nX0_shapeOf ⟨Nat.le_of_ble_eq_true rfl, Nat.le_of_ble_eq_true rfl⟩) rfl hl.1 rfl (Nat.le_of_ble_eq_true rfl) dX0_make_162 ⟨by show (((((0 + 0) + 0) + c77) + 0) + 0) + 0 ≤ C; omega, by show (((((0 + 0) + 0) + n77) + 0) + 0) + 0 ≤ N; omega⟩ (fun H locs hI => ?_)
              obtain ⟨c86, hg⟩ := ck_e hg
              obtain ⟨σ87, eσ87, hg⟩ := nmd_e hg
              refine ou_words S hK hI c86 eσ87 dX0_make_165 (fun H locs hI => ?_)
              refine lv_aload_n hx hb dX0_make_166 rfl (lv_at hl 3 rfl) ?_
              refine og_words S hin hK hI (ix := 23) (by decide +kernel) dX0_make_167 ?_
              refine lv_iload hx hb dX0_make_170 (lv_at hl 0 rfl) ?_
              refine lv_iconst (v := 1) hx hb dX0_make_172 (by decide) ?_
              refine lv_iadd hx hb dX0_make_173 ?_
              refine lv_iconst (v := (-1)) hx hb dX0_make_174 (by decide) ?_
              obtain ⟨c88, hg⟩ := ck_e hg
              obtain ⟨σ89, eσ89, hg⟩ := nmd_e hg
              refine ou_words S hK hI c88 eσ89 dX0_make_175 (fun H locs hI => ?_)
              refine lv_iload hx hb dX0_make_176 (lv_at hl 0 rfl) ?_
              exact oye_i S hr hlocks hK hI rfl hg (by omega) (by omega) dX0_make_178
        · have hg := cIf_fe c63 hg
          obtain ⟨e1, e2, e3, e4⟩ := x4_e hg
          subst e1; subst e2
          exact oth2_y S hK hZ hI rfl hno hlocks htr (is := 211) (tx := "full") (by decide +kernel) (by decide +kernel) (by decide +kernel) (by decide +kernel) hl.1 dX0_make_64 dX0_make_67 dX0_make_68 dX0_make_70 dX0_make_73 (Nat.le_of_ble_eq_true rfl) (Nat.le_of_ble_eq_true rfl) (by show ((0 + 0) + 0) + 1 ≤ C; omega) (by show ((0 + 0) + 0) + 6 ≤ N; omega) (by omega) (by omega)
  · have hg := cIf_fe c2 hg
    refine lv_iconst (v := 1) hx hb dX0_make_27 (by decide) ?_
    refine lv_goto (tgt := 32) hx hb dX0_make_28 (by decide) ?_
    refine lv_istore (lv' := [(6, .int 1), (5, .int x1), (0, .ref h0), (1, .int p1), (2, .int p2), (3, .int p3), (4, .int p4)]) hx hb dX0_make_32 hl (by decide) rfl (fun ls hl => ?_)
    refine lv_iload hx hb dX0_make_34 (lv_at hl 0 rfl) ?_
    refine lv_if_ne (tgt := 46) hx hb dX0_make_36 (by decide) (fun c90 => ?_) (fun c90 => ?_)
    · have hg := cIf_fe c90 hg
      refine lv_aload_n hx hb dX0_make_46 rfl (lv_at hl 2 rfl) ?_
      obtain ⟨σ91, eσ91, hg⟩ := bnp_e hg
      refine oc_v S hK hA hI (As := []) (rest := []) (kX0_slideTogether l G h0 h H.size F σ  σ91 eσ91) (cwV 0 hts gX0_make_X0_slideTogether rfl rfl rfl nX0_slideTogether ⟨Nat.le_of_ble_eq_true rfl, Nat.le_of_ble_eq_true rfl⟩) rfl hl.1 rfl (Nat.le_of_ble_eq_true rfl) dX0_make_47 ⟨by show 0 + 0 ≤ C; omega, by show 0 + 0 ≤ N; omega⟩ (fun H locs hI => ?_)
      refine lv_iload hx hb dX0_make_50 (lv_at hl 1 rfl) ?_
      refine lv_aload_n hx hb dX0_make_52 rfl (lv_at hl 2 rfl) ?_
      refine og_limit S hin hK hI (ix := 19) (by decide +kernel) dX0_make_53 ?_
      refine lv_aload_n hx hb dX0_make_56 rfl (lv_at hl 2 rfl) ?_
      refine og_used S hin hK hI (ix := 27) (by decide +kernel) dX0_make_57 ?_
      refine lv_isub hx hb dX0_make_60 ?_
      refine lv_icmp_le (tgt := 74) hx hb dX0_make_61 (by decide) (fun c92 => ?_) (fun c92 => ?_)
      · have hg := cIf_te c92 hg
        refine lv_iload hx hb dX0_make_74 (lv_at hl 0 rfl) ?_
        refine lv_if_eq (tgt := 90) hx hb dX0_make_76 (by decide) (fun c93 => ?_) (fun c93 => ?_)
        · have hg := cIf_te c93 hg
          refine lv_aload_n hx hb dX0_make_90 rfl (lv_at hl 2 rfl) ?_
          refine og_used S hin hK hI (ix := 27) (by decide +kernel) dX0_make_91 ?_
          obtain ⟨x94, ex94, hg⟩ := nmd_e hg
          refine wn_i ex94 ?_
          refine lv_istore (lv' := [(7, .int x94), (6, .int 1), (5, .int x1), (0, .ref h0), (1, .int p1), (2, .int p2), (3, .int p3), (4, .int p4)]) hx hb dX0_make_94 hl (by decide) rfl (fun ls hl => ?_)
          refine lv_aload_n hx hb dX0_make_96 rfl (lv_at hl 3 rfl) ?_
          refine lv_dup hx hb dX0_make_97 rfl ?_
          refine og_used S hin hK hI (ix := 27) (by decide +kernel) dX0_make_98 ?_
          refine lv_iload hx hb dX0_make_101 (lv_at hl 2 rfl) ?_
          refine lv_iadd hx hb dX0_make_103 ?_
          obtain ⟨σ95, eσ95, hg⟩ := nmd_e hg
          refine op_used S hin hK hI (ix := 27) (by decide +kernel) eσ95 dX0_make_104 (fun H locs hI => ?_)
          refine lv_aload_n hx hb dX0_make_107 rfl (lv_at hl 3 rfl) ?_
          refine lv_dup hx hb dX0_make_108 rfl ?_
          refine og_made S hin hK hI (ix := 54) (by decide +kernel) dX0_make_109 ?_
          refine lv_iconst (v := 1) hx hb dX0_make_112 (by decide) ?_
          refine lv_iadd hx hb dX0_make_113 ?_
          obtain ⟨σ96, eσ96, hg⟩ := nmd_e hg
          refine op_made S hin hK hI (ix := 54) (by decide +kernel) eσ96 dX0_make_114 (fun H locs hI => ?_)
          refine lv_aload_n hx hb dX0_make_117 rfl (lv_at hl 3 rfl) ?_
          refine og_words S hin hK hI (ix := 23) (by decide +kernel) dX0_make_118 ?_
          refine lv_iload hx hb dX0_make_121 (lv_at hl 0 rfl) ?_
          refine lv_aload_n hx hb dX0_make_123 rfl (lv_at hl 3 rfl) ?_
          refine og_used S hin hK hI (ix := 27) (by decide +kernel) dX0_make_124 ?_
          refine lv_iconst (v := 0) hx hb dX0_make_127 (by decide) ?_
          obtain ⟨c97, hg⟩ := ck_e hg
          obtain ⟨σ98, eσ98, hg⟩ := nmd_e hg
          refine ox_fill S hK hA hI c97 eσ98 gX0_make_J7_fill_fda19 hl.1 ⟨Nat.le_of_ble_eq_true rfl, Nat.le_of_ble_eq_true rfl⟩ ⟨by show (0 + 0) + 0 ≤ C; omega, by show (0 + 0) + 0 ≤ N; omega⟩ (Nat.le_of_ble_eq_true rfl) dX0_make_128 (fun H locs hI => ?_)
          refine lv_aload_n hx hb dX0_make_131 rfl (lv_at hl 3 rfl) ?_
          refine og_words S hin hK hI (ix := 23) (by decide +kernel) dX0_make_132 ?_
          refine lv_iload hx hb dX0_make_135 (lv_at hl 0 rfl) ?_
          refine lv_iconst (v := 3) hx hb dX0_make_137 (by decide) ?_
          refine lv_iadd hx hb dX0_make_138 ?_
          refine lv_iload hx hb dX0_make_139 (lv_at hl 0 rfl) ?_
          refine lv_iconst (v := 3) hx hb dX0_make_141 (by decide) ?_
          refine lv_iadd hx hb dX0_make_142 ?_
          refine lv_iload_n hx hb dX0_make_143 rfl (lv_at hl 5 rfl) ?_
          refine lv_iadd hx hb dX0_make_144 ?_
          refine lv_iconst (v := (-1)) hx hb dX0_make_145 (by decide) ?_
          obtain ⟨c99, hg⟩ := ck_e hg
          obtain ⟨σ100, eσ100, hg⟩ := nmd_e hg
          refine ox_fill S hK hA hI c99 eσ100 gX0_make_J7_fill_fda19 hl.1 ⟨Nat.le_of_ble_eq_true rfl, Nat.le_of_ble_eq_true rfl⟩ ⟨by show ((0 + 0) + 0) + 0 ≤ C; omega, by show ((0 + 0) + 0) + 0 ≤ N; omega⟩ (Nat.le_of_ble_eq_true rfl) dX0_make_146 (fun H locs hI => ?_)
          refine lv_aload_n hx hb dX0_make_149 rfl (lv_at hl 3 rfl) ?_
          refine og_words S hin hK hI (ix := 23) (by decide +kernel) dX0_make_150 ?_
          refine lv_iload hx hb dX0_make_153 (lv_at hl 0 rfl) ?_
          refine lv_iconst (v := 0) hx hb dX0_make_155 (by decide) ?_
          refine lv_iadd hx hb dX0_make_156 ?_
          refine lv_iload_n hx hb dX0_make_157 rfl (lv_at hl 4 rfl) ?_
          refine lv_iload_n hx hb dX0_make_158 rfl (lv_at hl 5 rfl) ?_
          refine lv_iload_n hx hb dX0_make_159 rfl (lv_at hl 6 rfl) ?_
          refine lv_iload hx hb dX0_make_160 (lv_at hl 2 rfl) ?_
          obtain ⟨r101, er101, hg⟩ := bnp_e hg
          refine os_i S hA hI (As := [.int p1, .int p2, .int p3, .int x1]) (rest := [.int (x94 + 0), .ref h.1]) (kX0_shapeOf l H.size F p1 p2 p3 x1 r101 er101) (va_cwS 4 hts gX0_make_X0_shapeOf rfl rfl rfl nX0_shapeOf ⟨Nat.le_of_ble_eq_true rfl, Nat.le_of_ble_eq_true rfl⟩) rfl hl.1 rfl (Nat.le_of_ble_eq_true rfl) dX0_make_162 ⟨by show (((0 + 0) + 0) + 0) + 0 ≤ C; omega, by show (((0 + 0) + 0) + 0) + 0 ≤ N; omega⟩ (fun H locs hI => ?_)
          obtain ⟨c102, hg⟩ := ck_e hg
          obtain ⟨σ103, eσ103, hg⟩ := nmd_e hg
          refine ou_words S hK hI c102 eσ103 dX0_make_165 (fun H locs hI => ?_)
          refine lv_aload_n hx hb dX0_make_166 rfl (lv_at hl 3 rfl) ?_
          refine og_words S hin hK hI (ix := 23) (by decide +kernel) dX0_make_167 ?_
          refine lv_iload hx hb dX0_make_170 (lv_at hl 0 rfl) ?_
          refine lv_iconst (v := 1) hx hb dX0_make_172 (by decide) ?_
          refine lv_iadd hx hb dX0_make_173 ?_
          refine lv_iconst (v := (-1)) hx hb dX0_make_174 (by decide) ?_
          obtain ⟨c104, hg⟩ := ck_e hg
          obtain ⟨σ105, eσ105, hg⟩ := nmd_e hg
          refine ou_words S hK hI c104 eσ105 dX0_make_175 (fun H locs hI => ?_)
          refine lv_iload hx hb dX0_make_176 (lv_at hl 0 rfl) ?_
          exact oye_i S hr hlocks hK hI rfl hg (by omega) (by omega) dX0_make_178
        · have hg := cIf_fe c93 hg
          refine lv_aload_n hx hb dX0_make_79 rfl (lv_at hl 2 rfl) ?_
          refine lv_aload_n hx hb dX0_make_80 rfl (lv_at hl 2 rfl) ?_
          refine og_used S hin hK hI (ix := 27) (by decide +kernel) dX0_make_81 ?_
          refine lv_iload hx hb dX0_make_84 (lv_at hl 1 rfl) ?_
          refine lv_iadd hx hb dX0_make_86 ?_
          rcases bndX_e hg with ⟨e106, hc106, er⟩ | ⟨a106, σ106, c106, n106, C106, N106, hc106, hg, eC, eN⟩
          · subst er
            exact oyt_vy S hK hA hZ hI hno hlocks (As := [.int ((o_us σ91) + x1)]) (rest := []) (kX0_widen l htr G h0 h H.size F σ91 ((o_us σ91) + x1) _ _ _ _ hc106) (cwV 1 hts gX0_make_X0_widen rfl rfl rfl nX0_widen ⟨Nat.le_of_ble_eq_true rfl, Nat.le_of_ble_eq_true rfl⟩) rfl hl.1 rfl (Nat.le_of_ble_eq_true rfl) dX0_make_87 ⟨by show (0 + 0) + C ≤ C; omega, by show (0 + 0) + N ≤ N; omega⟩ rfl (by omega) (by omega)
          · refine oyc_v S hK hA hZ hI (As := [.int ((o_us σ91) + x1)]) (rest := []) (kX0_widen l htr G h0 h H.size F σ91 ((o_us σ91) + x1) _ _ _ _ hc106) (cwV 1 hts gX0_make_X0_widen rfl rfl rfl nX0_widen ⟨Nat.le_of_ble_eq_true rfl, Nat.le_of_ble_eq_true rfl⟩) rfl hl.1 rfl (Nat.le_of_ble_eq_true rfl) dX0_make_87 ⟨by show (0 + 0) + c106 ≤ C; omega, by show (0 + 0) + n106 ≤ N; omega⟩ (fun hw106 hn106 H locs hI => ?_)
            have hC : ((0 + 0) + c106) + C106 ≤ C := by omega
            have hN : ((0 + 0) + n106) + N106 ≤ N := by omega
            refine lv_aload_n hx hb dX0_make_90 rfl (lv_at hl 2 rfl) ?_
            refine og_used S hin hK hI (ix := 27) (by decide +kernel) dX0_make_91 ?_
            obtain ⟨x107, ex107, hg⟩ := nmd_e hg
            refine wn_i ex107 ?_
            refine lv_istore (lv' := [(7, .int x107), (6, .int 1), (5, .int x1), (0, .ref h0), (1, .int p1), (2, .int p2), (3, .int p3), (4, .int p4)]) hx hb dX0_make_94 hl (by decide) rfl (fun ls hl => ?_)
            refine lv_aload_n hx hb dX0_make_96 rfl (lv_at hl 3 rfl) ?_
            refine lv_dup hx hb dX0_make_97 rfl ?_
            refine og_used S hin hK hI (ix := 27) (by decide +kernel) dX0_make_98 ?_
            refine lv_iload hx hb dX0_make_101 (lv_at hl 2 rfl) ?_
            refine lv_iadd hx hb dX0_make_103 ?_
            obtain ⟨σ108, eσ108, hg⟩ := nmd_e hg
            refine op_used S hin hK hI (ix := 27) (by decide +kernel) eσ108 dX0_make_104 (fun H locs hI => ?_)
            refine lv_aload_n hx hb dX0_make_107 rfl (lv_at hl 3 rfl) ?_
            refine lv_dup hx hb dX0_make_108 rfl ?_
            refine og_made S hin hK hI (ix := 54) (by decide +kernel) dX0_make_109 ?_
            refine lv_iconst (v := 1) hx hb dX0_make_112 (by decide) ?_
            refine lv_iadd hx hb dX0_make_113 ?_
            obtain ⟨σ109, eσ109, hg⟩ := nmd_e hg
            refine op_made S hin hK hI (ix := 54) (by decide +kernel) eσ109 dX0_make_114 (fun H locs hI => ?_)
            refine lv_aload_n hx hb dX0_make_117 rfl (lv_at hl 3 rfl) ?_
            refine og_words S hin hK hI (ix := 23) (by decide +kernel) dX0_make_118 ?_
            refine lv_iload hx hb dX0_make_121 (lv_at hl 0 rfl) ?_
            refine lv_aload_n hx hb dX0_make_123 rfl (lv_at hl 3 rfl) ?_
            refine og_used S hin hK hI (ix := 27) (by decide +kernel) dX0_make_124 ?_
            refine lv_iconst (v := 0) hx hb dX0_make_127 (by decide) ?_
            obtain ⟨c110, hg⟩ := ck_e hg
            obtain ⟨σ111, eσ111, hg⟩ := nmd_e hg
            refine ox_fill S hK hA hI c110 eσ111 gX0_make_J7_fill_fda19 hl.1 ⟨Nat.le_of_ble_eq_true rfl, Nat.le_of_ble_eq_true rfl⟩ ⟨by show ((0 + 0) + c106) + 0 ≤ C; omega, by show ((0 + 0) + n106) + 0 ≤ N; omega⟩ (Nat.le_of_ble_eq_true rfl) dX0_make_128 (fun H locs hI => ?_)
            refine lv_aload_n hx hb dX0_make_131 rfl (lv_at hl 3 rfl) ?_
            refine og_words S hin hK hI (ix := 23) (by decide +kernel) dX0_make_132 ?_
            refine lv_iload hx hb dX0_make_135 (lv_at hl 0 rfl) ?_
            refine lv_iconst (v := 3) hx hb dX0_make_137 (by decide) ?_
            refine lv_iadd hx hb dX0_make_138 ?_
            refine lv_iload hx hb dX0_make_139 (lv_at hl 0 rfl) ?_
            refine lv_iconst (v := 3) hx hb dX0_make_141 (by decide) ?_
            refine lv_iadd hx hb dX0_make_142 ?_
            refine lv_iload_n hx hb dX0_make_143 rfl (lv_at hl 5 rfl) ?_
            refine lv_iadd hx hb dX0_make_144 ?_
            refine lv_iconst (v := (-1)) hx hb dX0_make_145 (by decide) ?_
            obtain ⟨c112, hg⟩ := ck_e hg
            obtain ⟨σ113, eσ113, hg⟩ := nmd_e hg
            refine ox_fill S hK hA hI c112 eσ113 gX0_make_J7_fill_fda19 hl.1 ⟨Nat.le_of_ble_eq_true rfl, Nat.le_of_ble_eq_true rfl⟩ ⟨by show (((0 + 0) + c106) + 0) + 0 ≤ C; omega, by show (((0 + 0) + n106) + 0) + 0 ≤ N; omega⟩ (Nat.le_of_ble_eq_true rfl) dX0_make_146 (fun H locs hI => ?_)
            refine lv_aload_n hx hb dX0_make_149 rfl (lv_at hl 3 rfl) ?_
            refine og_words S hin hK hI (ix := 23) (by decide +kernel) dX0_make_150 ?_
            refine lv_iload hx hb dX0_make_153 (lv_at hl 0 rfl) ?_
            refine lv_iconst (v := 0) hx hb dX0_make_155 (by decide) ?_
            refine lv_iadd hx hb dX0_make_156 ?_
            refine lv_iload_n hx hb dX0_make_157 rfl (lv_at hl 4 rfl) ?_
            refine lv_iload_n hx hb dX0_make_158 rfl (lv_at hl 5 rfl) ?_
            refine lv_iload_n hx hb dX0_make_159 rfl (lv_at hl 6 rfl) ?_
            refine lv_iload hx hb dX0_make_160 (lv_at hl 2 rfl) ?_
            obtain ⟨r114, er114, hg⟩ := bnp_e hg
            refine os_i S hA hI (As := [.int p1, .int p2, .int p3, .int x1]) (rest := [.int (x107 + 0), .ref (hw106, h.2.1, hn106, h.2.2.2).1]) (kX0_shapeOf l H.size F p1 p2 p3 x1 r114 er114) (va_cwS 4 hts gX0_make_X0_shapeOf rfl rfl rfl nX0_shapeOf ⟨Nat.le_of_ble_eq_true rfl, Nat.le_of_ble_eq_true rfl⟩) rfl hl.1 rfl (Nat.le_of_ble_eq_true rfl) dX0_make_162 ⟨by show ((((0 + 0) + c106) + 0) + 0) + 0 ≤ C; omega, by show ((((0 + 0) + n106) + 0) + 0) + 0 ≤ N; omega⟩ (fun H locs hI => ?_)
            obtain ⟨c115, hg⟩ := ck_e hg
            obtain ⟨σ116, eσ116, hg⟩ := nmd_e hg
            refine ou_words S hK hI c115 eσ116 dX0_make_165 (fun H locs hI => ?_)
            refine lv_aload_n hx hb dX0_make_166 rfl (lv_at hl 3 rfl) ?_
            refine og_words S hin hK hI (ix := 23) (by decide +kernel) dX0_make_167 ?_
            refine lv_iload hx hb dX0_make_170 (lv_at hl 0 rfl) ?_
            refine lv_iconst (v := 1) hx hb dX0_make_172 (by decide) ?_
            refine lv_iadd hx hb dX0_make_173 ?_
            refine lv_iconst (v := (-1)) hx hb dX0_make_174 (by decide) ?_
            obtain ⟨c117, hg⟩ := ck_e hg
            obtain ⟨σ118, eσ118, hg⟩ := nmd_e hg
            refine ou_words S hK hI c117 eσ118 dX0_make_175 (fun H locs hI => ?_)
            refine lv_iload hx hb dX0_make_176 (lv_at hl 0 rfl) ?_
            exact oye_i S hr hlocks hK hI rfl hg (by omega) (by omega) dX0_make_178
      · have hg := cIf_fe c92 hg
        obtain ⟨e1, e2, e3, e4⟩ := x4_e hg
        subst e1; subst e2
        exact oth2_y S hK hZ hI rfl hno hlocks htr (is := 211) (tx := "full") (by decide +kernel) (by decide +kernel) (by decide +kernel) (by decide +kernel) hl.1 dX0_make_64 dX0_make_67 dX0_make_68 dX0_make_70 dX0_make_73 (Nat.le_of_ble_eq_true rfl) (Nat.le_of_ble_eq_true rfl) (by show (0 + 0) + 1 ≤ C; omega) (by show (0 + 0) + 6 ≤ N; omega) (by omega) (by omega)
    · have hg := cIf_te c90 hg
      refine lv_aload_n hx hb dX0_make_39 rfl (lv_at hl 2 rfl) ?_
      obtain ⟨r120, σ119, er120, hg⟩ := bnd_e hg
      refine oc_i S hK hA hI (As := []) (rest := []) (kX0_isStressed l G h0 h H.size F σ  r120 σ119 er120) (cwV 0 hts gX0_make_X0_isStressed rfl rfl rfl nX0_isStressed ⟨Nat.le_of_ble_eq_true rfl, Nat.le_of_ble_eq_true rfl⟩) rfl hl.1 rfl (Nat.le_of_ble_eq_true rfl) dX0_make_40 ⟨by show 0 + 0 ≤ C; omega, by show 0 + 0 ≤ N; omega⟩ (fun H locs hI => ?_)
      refine lv_if_eq (tgt := 50) hx hb dX0_make_43 (by decide) (fun c121 => ?_) (fun c121 => ?_)
      · have hg := cIf_te c121 hg
        refine lv_iload hx hb dX0_make_50 (lv_at hl 1 rfl) ?_
        refine lv_aload_n hx hb dX0_make_52 rfl (lv_at hl 2 rfl) ?_
        refine og_limit S hin hK hI (ix := 19) (by decide +kernel) dX0_make_53 ?_
        refine lv_aload_n hx hb dX0_make_56 rfl (lv_at hl 2 rfl) ?_
        refine og_used S hin hK hI (ix := 27) (by decide +kernel) dX0_make_57 ?_
        refine lv_isub hx hb dX0_make_60 ?_
        refine lv_icmp_le (tgt := 74) hx hb dX0_make_61 (by decide) (fun c122 => ?_) (fun c122 => ?_)
        · have hg := cIf_te c122 hg
          refine lv_iload hx hb dX0_make_74 (lv_at hl 0 rfl) ?_
          refine lv_if_eq (tgt := 90) hx hb dX0_make_76 (by decide) (fun c123 => ?_) (fun c123 => ?_)
          · have hg := cIf_te c123 hg
            refine lv_aload_n hx hb dX0_make_90 rfl (lv_at hl 2 rfl) ?_
            refine og_used S hin hK hI (ix := 27) (by decide +kernel) dX0_make_91 ?_
            obtain ⟨x124, ex124, hg⟩ := nmd_e hg
            refine wn_i ex124 ?_
            refine lv_istore (lv' := [(7, .int x124), (6, .int 1), (5, .int x1), (0, .ref h0), (1, .int p1), (2, .int p2), (3, .int p3), (4, .int p4)]) hx hb dX0_make_94 hl (by decide) rfl (fun ls hl => ?_)
            refine lv_aload_n hx hb dX0_make_96 rfl (lv_at hl 3 rfl) ?_
            refine lv_dup hx hb dX0_make_97 rfl ?_
            refine og_used S hin hK hI (ix := 27) (by decide +kernel) dX0_make_98 ?_
            refine lv_iload hx hb dX0_make_101 (lv_at hl 2 rfl) ?_
            refine lv_iadd hx hb dX0_make_103 ?_
            obtain ⟨σ125, eσ125, hg⟩ := nmd_e hg
            refine op_used S hin hK hI (ix := 27) (by decide +kernel) eσ125 dX0_make_104 (fun H locs hI => ?_)
            refine lv_aload_n hx hb dX0_make_107 rfl (lv_at hl 3 rfl) ?_
            refine lv_dup hx hb dX0_make_108 rfl ?_
            refine og_made S hin hK hI (ix := 54) (by decide +kernel) dX0_make_109 ?_
            refine lv_iconst (v := 1) hx hb dX0_make_112 (by decide) ?_
            refine lv_iadd hx hb dX0_make_113 ?_
            obtain ⟨σ126, eσ126, hg⟩ := nmd_e hg
            refine op_made S hin hK hI (ix := 54) (by decide +kernel) eσ126 dX0_make_114 (fun H locs hI => ?_)
            refine lv_aload_n hx hb dX0_make_117 rfl (lv_at hl 3 rfl) ?_
            refine og_words S hin hK hI (ix := 23) (by decide +kernel) dX0_make_118 ?_
            refine lv_iload hx hb dX0_make_121 (lv_at hl 0 rfl) ?_
            refine lv_aload_n hx hb dX0_make_123 rfl (lv_at hl 3 rfl) ?_
            refine og_used S hin hK hI (ix := 27) (by decide +kernel) dX0_make_124 ?_
            refine lv_iconst (v := 0) hx hb dX0_make_127 (by decide) ?_
            obtain ⟨c127, hg⟩ := ck_e hg
            obtain ⟨σ128, eσ128, hg⟩ := nmd_e hg
            refine ox_fill S hK hA hI c127 eσ128 gX0_make_J7_fill_fda19 hl.1 ⟨Nat.le_of_ble_eq_true rfl, Nat.le_of_ble_eq_true rfl⟩ ⟨by show (0 + 0) + 0 ≤ C; omega, by show (0 + 0) + 0 ≤ N; omega⟩ (Nat.le_of_ble_eq_true rfl) dX0_make_128 (fun H locs hI => ?_)
            refine lv_aload_n hx hb dX0_make_131 rfl (lv_at hl 3 rfl) ?_
            refine og_words S hin hK hI (ix := 23) (by decide +kernel) dX0_make_132 ?_
            refine lv_iload hx hb dX0_make_135 (lv_at hl 0 rfl) ?_
            refine lv_iconst (v := 3) hx hb dX0_make_137 (by decide) ?_
            refine lv_iadd hx hb dX0_make_138 ?_
            refine lv_iload hx hb dX0_make_139 (lv_at hl 0 rfl) ?_
            refine lv_iconst (v := 3) hx hb dX0_make_141 (by decide) ?_
            refine lv_iadd hx hb dX0_make_142 ?_
            refine lv_iload_n hx hb dX0_make_143 rfl (lv_at hl 5 rfl) ?_
            refine lv_iadd hx hb dX0_make_144 ?_
            refine lv_iconst (v := (-1)) hx hb dX0_make_145 (by decide) ?_
            obtain ⟨c129, hg⟩ := ck_e hg
            obtain ⟨σ130, eσ130, hg⟩ := nmd_e hg
            refine ox_fill S hK hA hI c129 eσ130 gX0_make_J7_fill_fda19 hl.1 ⟨Nat.le_of_ble_eq_true rfl, Nat.le_of_ble_eq_true rfl⟩ ⟨by show ((0 + 0) + 0) + 0 ≤ C; omega, by show ((0 + 0) + 0) + 0 ≤ N; omega⟩ (Nat.le_of_ble_eq_true rfl) dX0_make_146 (fun H locs hI => ?_)
            refine lv_aload_n hx hb dX0_make_149 rfl (lv_at hl 3 rfl) ?_
            refine og_words S hin hK hI (ix := 23) (by decide +kernel) dX0_make_150 ?_
            refine lv_iload hx hb dX0_make_153 (lv_at hl 0 rfl) ?_
            refine lv_iconst (v := 0) hx hb dX0_make_155 (by decide) ?_
            refine lv_iadd hx hb dX0_make_156 ?_
            refine lv_iload_n hx hb dX0_make_157 rfl (lv_at hl 4 rfl) ?_
            refine lv_iload_n hx hb dX0_make_158 rfl (lv_at hl 5 rfl) ?_
            refine lv_iload_n hx hb dX0_make_159 rfl (lv_at hl 6 rfl) ?_
            refine lv_iload hx hb dX0_make_160 (lv_at hl 2 rfl) ?_
            obtain ⟨r131, er131, hg⟩ := bnp_e hg
            refine os_i S hA hI (As := [.int p1, .int p2, .int p3, .int x1]) (rest := [.int (x124 + 0), .ref h.1]) (kX0_shapeOf l H.size F p1 p2 p3 x1 r131 er131) (va_cwS 4 hts gX0_make_X0_shapeOf rfl rfl rfl nX0_shapeOf ⟨Nat.le_of_ble_eq_true rfl, Nat.le_of_ble_eq_true rfl⟩) rfl hl.1 rfl (Nat.le_of_ble_eq_true rfl) dX0_make_162 ⟨by show (((0 + 0) + 0) + 0) + 0 ≤ C; omega, by show (((0 + 0) + 0) + 0) + 0 ≤ N; omega⟩ (fun H locs hI => ?_)
            obtain ⟨c132, hg⟩ := ck_e hg
            obtain ⟨σ133, eσ133, hg⟩ := nmd_e hg
            refine ou_words S hK hI c132 eσ133 dX0_make_165 (fun H locs hI => ?_)
            refine lv_aload_n hx hb dX0_make_166 rfl (lv_at hl 3 rfl) ?_
            refine og_words S hin hK hI (ix := 23) (by decide +kernel) dX0_make_167 ?_
            refine lv_iload hx hb dX0_make_170 (lv_at hl 0 rfl) ?_
            refine lv_iconst (v := 1) hx hb dX0_make_172 (by decide) ?_
            refine lv_iadd hx hb dX0_make_173 ?_
            refine lv_iconst (v := (-1)) hx hb dX0_make_174 (by decide) ?_
            obtain ⟨c134, hg⟩ := ck_e hg
            obtain ⟨σ135, eσ135, hg⟩ := nmd_e hg
            refine ou_words S hK hI c134 eσ135 dX0_make_175 (fun H locs hI => ?_)
            refine lv_iload hx hb dX0_make_176 (lv_at hl 0 rfl) ?_
            exact oye_i S hr hlocks hK hI rfl hg (by omega) (by omega) dX0_make_178
          · have hg := cIf_fe c123 hg
            refine lv_aload_n hx hb dX0_make_79 rfl (lv_at hl 2 rfl) ?_
            refine lv_aload_n hx hb dX0_make_80 rfl (lv_at hl 2 rfl) ?_
            refine og_used S hin hK hI (ix := 27) (by decide +kernel) dX0_make_81 ?_
            refine lv_iload hx hb dX0_make_84 (lv_at hl 1 rfl) ?_
            refine lv_iadd hx hb dX0_make_86 ?_
            rcases bndX_e hg with ⟨e136, hc136, er⟩ | ⟨a136, σ136, c136, n136, C136, N136, hc136, hg, eC, eN⟩
            · subst er
              exact oyt_vy S hK hA hZ hI hno hlocks (As := [.int ((o_us σ119) + x1)]) (rest := []) (kX0_widen l htr G h0 h H.size F σ119 ((o_us σ119) + x1) _ _ _ _ hc136) (cwV 1 hts gX0_make_X0_widen rfl rfl rfl nX0_widen ⟨Nat.le_of_ble_eq_true rfl, Nat.le_of_ble_eq_true rfl⟩) rfl hl.1 rfl (Nat.le_of_ble_eq_true rfl) dX0_make_87 ⟨by show (0 + 0) + C ≤ C; omega, by show (0 + 0) + N ≤ N; omega⟩ rfl (by omega) (by omega)
            · refine oyc_v S hK hA hZ hI (As := [.int ((o_us σ119) + x1)]) (rest := []) (kX0_widen l htr G h0 h H.size F σ119 ((o_us σ119) + x1) _ _ _ _ hc136) (cwV 1 hts gX0_make_X0_widen rfl rfl rfl nX0_widen ⟨Nat.le_of_ble_eq_true rfl, Nat.le_of_ble_eq_true rfl⟩) rfl hl.1 rfl (Nat.le_of_ble_eq_true rfl) dX0_make_87 ⟨by show (0 + 0) + c136 ≤ C; omega, by show (0 + 0) + n136 ≤ N; omega⟩ (fun hw136 hn136 H locs hI => ?_)
              have hC : ((0 + 0) + c136) + C136 ≤ C := by omega
              have hN : ((0 + 0) + n136) + N136 ≤ N := by omega
              refine lv_aload_n hx hb dX0_make_90 rfl (lv_at hl 2 rfl) ?_
              refine og_used S hin hK hI (ix := 27) (by decide +kernel) dX0_make_91 ?_
              obtain ⟨x137, ex137, hg⟩ := nmd_e hg
              refine wn_i ex137 ?_
              refine lv_istore (lv' := [(7, .int x137), (6, .int 1), (5, .int x1), (0, .ref h0), (1, .int p1), (2, .int p2), (3, .int p3), (4, .int p4)]) hx hb dX0_make_94 hl (by decide) rfl (fun ls hl => ?_)
              refine lv_aload_n hx hb dX0_make_96 rfl (lv_at hl 3 rfl) ?_
              refine lv_dup hx hb dX0_make_97 rfl ?_
              refine og_used S hin hK hI (ix := 27) (by decide +kernel) dX0_make_98 ?_
              refine lv_iload hx hb dX0_make_101 (lv_at hl 2 rfl) ?_
              refine lv_iadd hx hb dX0_make_103 ?_
              obtain ⟨σ138, eσ138, hg⟩ := nmd_e hg
              refine op_used S hin hK hI (ix := 27) (by decide +kernel) eσ138 dX0_make_104 (fun H locs hI => ?_)
              refine lv_aload_n hx hb dX0_make_107 rfl (lv_at hl 3 rfl) ?_
              refine lv_dup hx hb dX0_make_108 rfl ?_
              refine og_made S hin hK hI (ix := 54) (by decide +kernel) dX0_make_109 ?_
              refine lv_iconst (v := 1) hx hb dX0_make_112 (by decide) ?_
              refine lv_iadd hx hb dX0_make_113 ?_
              obtain ⟨σ139, eσ139, hg⟩ := nmd_e hg
              refine op_made S hin hK hI (ix := 54) (by decide +kernel) eσ139 dX0_make_114 (fun H locs hI => ?_)
              refine lv_aload_n hx hb dX0_make_117 rfl (lv_at hl 3 rfl) ?_
              refine og_words S hin hK hI (ix := 23) (by decide +kernel) dX0_make_118 ?_
              refine lv_iload hx hb dX0_make_121 (lv_at hl 0 rfl) ?_
              refine lv_aload_n hx hb dX0_make_123 rfl (lv_at hl 3 rfl) ?_
              refine og_used S hin hK hI (ix := 27) (by decide +kernel) dX0_make_124 ?_
              refine lv_iconst (v := 0) hx hb dX0_make_127 (by decide) ?_
              obtain ⟨c140, hg⟩ := ck_e hg
              obtain ⟨σ141, eσ141, hg⟩ := nmd_e hg
              refine ox_fill S hK hA hI c140 eσ141 gX0_make_J7_fill_fda19 hl.1 ⟨Nat.le_of_ble_eq_true rfl, Nat.le_of_ble_eq_true rfl⟩ ⟨by show ((0 + 0) + c136) + 0 ≤ C; omega, by show ((0 + 0) + n136) + 0 ≤ N; omega⟩ (Nat.le_of_ble_eq_true rfl) dX0_make_128 (fun H locs hI => ?_)
              refine lv_aload_n hx hb dX0_make_131 rfl (lv_at hl 3 rfl) ?_
              refine og_words S hin hK hI (ix := 23) (by decide +kernel) dX0_make_132 ?_
              refine lv_iload hx hb dX0_make_135 (lv_at hl 0 rfl) ?_
              refine lv_iconst (v := 3) hx hb dX0_make_137 (by decide) ?_
              refine lv_iadd hx hb dX0_make_138 ?_
              refine lv_iload hx hb dX0_make_139 (lv_at hl 0 rfl) ?_
              refine lv_iconst (v := 3) hx hb dX0_make_141 (by decide) ?_
              refine lv_iadd hx hb dX0_make_142 ?_
              refine lv_iload_n hx hb dX0_make_143 rfl (lv_at hl 5 rfl) ?_
              refine lv_iadd hx hb dX0_make_144 ?_
              refine lv_iconst (v := (-1)) hx hb dX0_make_145 (by decide) ?_
              obtain ⟨c142, hg⟩ := ck_e hg
              obtain ⟨σ143, eσ143, hg⟩ := nmd_e hg
              refine ox_fill S hK hA hI c142 eσ143 gX0_make_J7_fill_fda19 hl.1 ⟨Nat.le_of_ble_eq_true rfl, Nat.le_of_ble_eq_true rfl⟩ ⟨by show (((0 + 0) + c136) + 0) + 0 ≤ C; omega, by show (((0 + 0) + n136) + 0) + 0 ≤ N; omega⟩ (Nat.le_of_ble_eq_true rfl) dX0_make_146 (fun H locs hI => ?_)
              refine lv_aload_n hx hb dX0_make_149 rfl (lv_at hl 3 rfl) ?_
              refine og_words S hin hK hI (ix := 23) (by decide +kernel) dX0_make_150 ?_
              refine lv_iload hx hb dX0_make_153 (lv_at hl 0 rfl) ?_
              refine lv_iconst (v := 0) hx hb dX0_make_155 (by decide) ?_
              refine lv_iadd hx hb dX0_make_156 ?_
              refine lv_iload_n hx hb dX0_make_157 rfl (lv_at hl 4 rfl) ?_
              refine lv_iload_n hx hb dX0_make_158 rfl (lv_at hl 5 rfl) ?_
              refine lv_iload_n hx hb dX0_make_159 rfl (lv_at hl 6 rfl) ?_
              refine lv_iload hx hb dX0_make_160 (lv_at hl 2 rfl) ?_
              obtain ⟨r144, er144, hg⟩ := bnp_e hg
              refine os_i S hA hI (As := [.int p1, .int p2, .int p3, .int x1]) (rest := [.int (x137 + 0), .ref (hw136, h.2.1, hn136, h.2.2.2).1]) (kX0_shapeOf l H.size F p1 p2 p3 x1 r144 er144) (va_cwS 4 hts gX0_make_X0_shapeOf rfl rfl rfl nX0_shapeOf ⟨Nat.le_of_ble_eq_true rfl, Nat.le_of_ble_eq_true rfl⟩) rfl hl.1 rfl (Nat.le_of_ble_eq_true rfl) dX0_make_162 ⟨by show ((((0 + 0) + c136) + 0) + 0) + 0 ≤ C; omega, by show ((((0 + 0) + n136) + 0) + 0) + 0 ≤ N; omega⟩ (fun H locs hI => ?_)
              obtain ⟨c145, hg⟩ := ck_e hg
              obtain ⟨σ146, eσ146, hg⟩ := nmd_e hg
              refine ou_words S hK hI c145 eσ146 dX0_make_165 (fun H locs hI => ?_)
              refine lv_aload_n hx hb dX0_make_166 rfl (lv_at hl 3 rfl) ?_
              refine og_words S hin hK hI (ix := 23) (by decide +kernel) dX0_make_167 ?_
              refine lv_iload hx hb dX0_make_170 (lv_at hl 0 rfl) ?_
              refine lv_iconst (v := 1) hx hb dX0_make_172 (by decide) ?_
              refine lv_iadd hx hb dX0_make_173 ?_
              refine lv_iconst (v := (-1)) hx hb dX0_make_174 (by decide) ?_
              obtain ⟨c147, hg⟩ := ck_e hg
              obtain ⟨σ148, eσ148, hg⟩ := nmd_e hg
              refine ou_words S hK hI c147 eσ148 dX0_make_175 (fun H locs hI => ?_)
              refine lv_iload hx hb dX0_make_176 (lv_at hl 0 rfl) ?_
              exact oye_i S hr hlocks hK hI rfl hg (by omega) (by omega) dX0_make_178
        · have hg := cIf_fe c122 hg
          obtain ⟨e1, e2, e3, e4⟩ := x4_e hg
          subst e1; subst e2
          exact oth2_y S hK hZ hI rfl hno hlocks htr (is := 211) (tx := "full") (by decide +kernel) (by decide +kernel) (by decide +kernel) (by decide +kernel) hl.1 dX0_make_64 dX0_make_67 dX0_make_68 dX0_make_70 dX0_make_73 (Nat.le_of_ble_eq_true rfl) (Nat.le_of_ble_eq_true rfl) (by show (0 + 0) + 1 ≤ C; omega) (by show (0 + 0) + 6 ≤ N; omega) (by omega) (by omega)
      · have hg := cIf_fe c121 hg
        refine lv_aload_n hx hb dX0_make_46 rfl (lv_at hl 2 rfl) ?_
        obtain ⟨σ149, eσ149, hg⟩ := bnp_e hg
        refine oc_v S hK hA hI (As := []) (rest := []) (kX0_slideTogether l G h0 h H.size F σ119  σ149 eσ149) (cwV 0 hts gX0_make_X0_slideTogether rfl rfl rfl nX0_slideTogether ⟨Nat.le_of_ble_eq_true rfl, Nat.le_of_ble_eq_true rfl⟩) rfl hl.1 rfl (Nat.le_of_ble_eq_true rfl) dX0_make_47 ⟨by show (0 + 0) + 0 ≤ C; omega, by show (0 + 0) + 0 ≤ N; omega⟩ (fun H locs hI => ?_)
        refine lv_iload hx hb dX0_make_50 (lv_at hl 1 rfl) ?_
        refine lv_aload_n hx hb dX0_make_52 rfl (lv_at hl 2 rfl) ?_
        refine og_limit S hin hK hI (ix := 19) (by decide +kernel) dX0_make_53 ?_
        refine lv_aload_n hx hb dX0_make_56 rfl (lv_at hl 2 rfl) ?_
        refine og_used S hin hK hI (ix := 27) (by decide +kernel) dX0_make_57 ?_
        refine lv_isub hx hb dX0_make_60 ?_
        refine lv_icmp_le (tgt := 74) hx hb dX0_make_61 (by decide) (fun c150 => ?_) (fun c150 => ?_)
        · have hg := cIf_te c150 hg
          refine lv_iload hx hb dX0_make_74 (lv_at hl 0 rfl) ?_
          refine lv_if_eq (tgt := 90) hx hb dX0_make_76 (by decide) (fun c151 => ?_) (fun c151 => ?_)
          · have hg := cIf_te c151 hg
            refine lv_aload_n hx hb dX0_make_90 rfl (lv_at hl 2 rfl) ?_
            refine og_used S hin hK hI (ix := 27) (by decide +kernel) dX0_make_91 ?_
            obtain ⟨x152, ex152, hg⟩ := nmd_e hg
            refine wn_i ex152 ?_
            refine lv_istore (lv' := [(7, .int x152), (6, .int 1), (5, .int x1), (0, .ref h0), (1, .int p1), (2, .int p2), (3, .int p3), (4, .int p4)]) hx hb dX0_make_94 hl (by decide) rfl (fun ls hl => ?_)
            refine lv_aload_n hx hb dX0_make_96 rfl (lv_at hl 3 rfl) ?_
            refine lv_dup hx hb dX0_make_97 rfl ?_
            refine og_used S hin hK hI (ix := 27) (by decide +kernel) dX0_make_98 ?_
            refine lv_iload hx hb dX0_make_101 (lv_at hl 2 rfl) ?_
            refine lv_iadd hx hb dX0_make_103 ?_
            obtain ⟨σ153, eσ153, hg⟩ := nmd_e hg
            refine op_used S hin hK hI (ix := 27) (by decide +kernel) eσ153 dX0_make_104 (fun H locs hI => ?_)
            refine lv_aload_n hx hb dX0_make_107 rfl (lv_at hl 3 rfl) ?_
            refine lv_dup hx hb dX0_make_108 rfl ?_
            refine og_made S hin hK hI (ix := 54) (by decide +kernel) dX0_make_109 ?_
            refine lv_iconst (v := 1) hx hb dX0_make_112 (by decide) ?_
            refine lv_iadd hx hb dX0_make_113 ?_
            obtain ⟨σ154, eσ154, hg⟩ := nmd_e hg
            refine op_made S hin hK hI (ix := 54) (by decide +kernel) eσ154 dX0_make_114 (fun H locs hI => ?_)
            refine lv_aload_n hx hb dX0_make_117 rfl (lv_at hl 3 rfl) ?_
            refine og_words S hin hK hI (ix := 23) (by decide +kernel) dX0_make_118 ?_
            refine lv_iload hx hb dX0_make_121 (lv_at hl 0 rfl) ?_
            refine lv_aload_n hx hb dX0_make_123 rfl (lv_at hl 3 rfl) ?_
            refine og_used S hin hK hI (ix := 27) (by decide +kernel) dX0_make_124 ?_
            refine lv_iconst (v := 0) hx hb dX0_make_127 (by decide) ?_
            obtain ⟨c155, hg⟩ := ck_e hg
            obtain ⟨σ156, eσ156, hg⟩ := nmd_e hg
            refine ox_fill S hK hA hI c155 eσ156 gX0_make_J7_fill_fda19 hl.1 ⟨Nat.le_of_ble_eq_true rfl, Nat.le_of_ble_eq_true rfl⟩ ⟨by show ((0 + 0) + 0) + 0 ≤ C; omega, by show ((0 + 0) + 0) + 0 ≤ N; omega⟩ (Nat.le_of_ble_eq_true rfl) dX0_make_128 (fun H locs hI => ?_)
            refine lv_aload_n hx hb dX0_make_131 rfl (lv_at hl 3 rfl) ?_
            refine og_words S hin hK hI (ix := 23) (by decide +kernel) dX0_make_132 ?_
            refine lv_iload hx hb dX0_make_135 (lv_at hl 0 rfl) ?_
            refine lv_iconst (v := 3) hx hb dX0_make_137 (by decide) ?_
            refine lv_iadd hx hb dX0_make_138 ?_
            refine lv_iload hx hb dX0_make_139 (lv_at hl 0 rfl) ?_
            refine lv_iconst (v := 3) hx hb dX0_make_141 (by decide) ?_
            refine lv_iadd hx hb dX0_make_142 ?_
            refine lv_iload_n hx hb dX0_make_143 rfl (lv_at hl 5 rfl) ?_
            refine lv_iadd hx hb dX0_make_144 ?_
            refine lv_iconst (v := (-1)) hx hb dX0_make_145 (by decide) ?_
            obtain ⟨c157, hg⟩ := ck_e hg
            obtain ⟨σ158, eσ158, hg⟩ := nmd_e hg
            refine ox_fill S hK hA hI c157 eσ158 gX0_make_J7_fill_fda19 hl.1 ⟨Nat.le_of_ble_eq_true rfl, Nat.le_of_ble_eq_true rfl⟩ ⟨by show (((0 + 0) + 0) + 0) + 0 ≤ C; omega, by show (((0 + 0) + 0) + 0) + 0 ≤ N; omega⟩ (Nat.le_of_ble_eq_true rfl) dX0_make_146 (fun H locs hI => ?_)
            refine lv_aload_n hx hb dX0_make_149 rfl (lv_at hl 3 rfl) ?_
            refine og_words S hin hK hI (ix := 23) (by decide +kernel) dX0_make_150 ?_
            refine lv_iload hx hb dX0_make_153 (lv_at hl 0 rfl) ?_
            refine lv_iconst (v := 0) hx hb dX0_make_155 (by decide) ?_
            refine lv_iadd hx hb dX0_make_156 ?_
            refine lv_iload_n hx hb dX0_make_157 rfl (lv_at hl 4 rfl) ?_
            refine lv_iload_n hx hb dX0_make_158 rfl (lv_at hl 5 rfl) ?_
            refine lv_iload_n hx hb dX0_make_159 rfl (lv_at hl 6 rfl) ?_
            refine lv_iload hx hb dX0_make_160 (lv_at hl 2 rfl) ?_
            obtain ⟨r159, er159, hg⟩ := bnp_e hg
            refine os_i S hA hI (As := [.int p1, .int p2, .int p3, .int x1]) (rest := [.int (x152 + 0), .ref h.1]) (kX0_shapeOf l H.size F p1 p2 p3 x1 r159 er159) (va_cwS 4 hts gX0_make_X0_shapeOf rfl rfl rfl nX0_shapeOf ⟨Nat.le_of_ble_eq_true rfl, Nat.le_of_ble_eq_true rfl⟩) rfl hl.1 rfl (Nat.le_of_ble_eq_true rfl) dX0_make_162 ⟨by show ((((0 + 0) + 0) + 0) + 0) + 0 ≤ C; omega, by show ((((0 + 0) + 0) + 0) + 0) + 0 ≤ N; omega⟩ (fun H locs hI => ?_)
            obtain ⟨c160, hg⟩ := ck_e hg
            obtain ⟨σ161, eσ161, hg⟩ := nmd_e hg
            refine ou_words S hK hI c160 eσ161 dX0_make_165 (fun H locs hI => ?_)
            refine lv_aload_n hx hb dX0_make_166 rfl (lv_at hl 3 rfl) ?_
            refine og_words S hin hK hI (ix := 23) (by decide +kernel) dX0_make_167 ?_
            refine lv_iload hx hb dX0_make_170 (lv_at hl 0 rfl) ?_
            refine lv_iconst (v := 1) hx hb dX0_make_172 (by decide) ?_
            refine lv_iadd hx hb dX0_make_173 ?_
            refine lv_iconst (v := (-1)) hx hb dX0_make_174 (by decide) ?_
            obtain ⟨c162, hg⟩ := ck_e hg
            obtain ⟨σ163, eσ163, hg⟩ := nmd_e hg
            refine ou_words S hK hI c162 eσ163 dX0_make_175 (fun H locs hI => ?_)
            refine lv_iload hx hb dX0_make_176 (lv_at hl 0 rfl) ?_
            exact oye_i S hr hlocks hK hI rfl hg (by omega) (by omega) dX0_make_178
          · have hg := cIf_fe c151 hg
            refine lv_aload_n hx hb dX0_make_79 rfl (lv_at hl 2 rfl) ?_
            refine lv_aload_n hx hb dX0_make_80 rfl (lv_at hl 2 rfl) ?_
            refine og_used S hin hK hI (ix := 27) (by decide +kernel) dX0_make_81 ?_
            refine lv_iload hx hb dX0_make_84 (lv_at hl 1 rfl) ?_
            refine lv_iadd hx hb dX0_make_86 ?_
            rcases bndX_e hg with ⟨e164, hc164, er⟩ | ⟨a164, σ164, c164, n164, C164, N164, hc164, hg, eC, eN⟩
            · subst er
              exact oyt_vy S hK hA hZ hI hno hlocks (As := [.int ((o_us σ149) + x1)]) (rest := []) (kX0_widen l htr G h0 h H.size F σ149 ((o_us σ149) + x1) _ _ _ _ hc164) (cwV 1 hts gX0_make_X0_widen rfl rfl rfl nX0_widen ⟨Nat.le_of_ble_eq_true rfl, Nat.le_of_ble_eq_true rfl⟩) rfl hl.1 rfl (Nat.le_of_ble_eq_true rfl) dX0_make_87 ⟨by show ((0 + 0) + 0) + C ≤ C; omega, by show ((0 + 0) + 0) + N ≤ N; omega⟩ rfl (by omega) (by omega)
            · refine oyc_v S hK hA hZ hI (As := [.int ((o_us σ149) + x1)]) (rest := []) (kX0_widen l htr G h0 h H.size F σ149 ((o_us σ149) + x1) _ _ _ _ hc164) (cwV 1 hts gX0_make_X0_widen rfl rfl rfl nX0_widen ⟨Nat.le_of_ble_eq_true rfl, Nat.le_of_ble_eq_true rfl⟩) rfl hl.1 rfl (Nat.le_of_ble_eq_true rfl) dX0_make_87 ⟨by show ((0 + 0) + 0) + c164 ≤ C; omega, by show ((0 + 0) + 0) + n164 ≤ N; omega⟩ (fun hw164 hn164 H locs hI => ?_)
              have hC : (((0 + 0) + 0) + c164) + C164 ≤ C := by omega
              have hN : (((0 + 0) + 0) + n164) + N164 ≤ N := by omega
              refine lv_aload_n hx hb dX0_make_90 rfl (lv_at hl 2 rfl) ?_
              refine og_used S hin hK hI (ix := 27) (by decide +kernel) dX0_make_91 ?_
              obtain ⟨x165, ex165, hg⟩ := nmd_e hg
              refine wn_i ex165 ?_
              refine lv_istore (lv' := [(7, .int x165), (6, .int 1), (5, .int x1), (0, .ref h0), (1, .int p1), (2, .int p2), (3, .int p3), (4, .int p4)]) hx hb dX0_make_94 hl (by decide) rfl (fun ls hl => ?_)
              refine lv_aload_n hx hb dX0_make_96 rfl (lv_at hl 3 rfl) ?_
              refine lv_dup hx hb dX0_make_97 rfl ?_
              refine og_used S hin hK hI (ix := 27) (by decide +kernel) dX0_make_98 ?_
              refine lv_iload hx hb dX0_make_101 (lv_at hl 2 rfl) ?_
              refine lv_iadd hx hb dX0_make_103 ?_
              obtain ⟨σ166, eσ166, hg⟩ := nmd_e hg
              refine op_used S hin hK hI (ix := 27) (by decide +kernel) eσ166 dX0_make_104 (fun H locs hI => ?_)
              refine lv_aload_n hx hb dX0_make_107 rfl (lv_at hl 3 rfl) ?_
              refine lv_dup hx hb dX0_make_108 rfl ?_
              refine og_made S hin hK hI (ix := 54) (by decide +kernel) dX0_make_109 ?_
              refine lv_iconst (v := 1) hx hb dX0_make_112 (by decide) ?_
              refine lv_iadd hx hb dX0_make_113 ?_
              obtain ⟨σ167, eσ167, hg⟩ := nmd_e hg
              refine op_made S hin hK hI (ix := 54) (by decide +kernel) eσ167 dX0_make_114 (fun H locs hI => ?_)
              refine lv_aload_n hx hb dX0_make_117 rfl (lv_at hl 3 rfl) ?_
              refine og_words S hin hK hI (ix := 23) (by decide +kernel) dX0_make_118 ?_
              refine lv_iload hx hb dX0_make_121 (lv_at hl 0 rfl) ?_
              refine lv_aload_n hx hb dX0_make_123 rfl (lv_at hl 3 rfl) ?_
              refine og_used S hin hK hI (ix := 27) (by decide +kernel) dX0_make_124 ?_
              refine lv_iconst (v := 0) hx hb dX0_make_127 (by decide) ?_
              obtain ⟨c168, hg⟩ := ck_e hg
              obtain ⟨σ169, eσ169, hg⟩ := nmd_e hg
              refine ox_fill S hK hA hI c168 eσ169 gX0_make_J7_fill_fda19 hl.1 ⟨Nat.le_of_ble_eq_true rfl, Nat.le_of_ble_eq_true rfl⟩ ⟨by show (((0 + 0) + 0) + c164) + 0 ≤ C; omega, by show (((0 + 0) + 0) + n164) + 0 ≤ N; omega⟩ (Nat.le_of_ble_eq_true rfl) dX0_make_128 (fun H locs hI => ?_)
              refine lv_aload_n hx hb dX0_make_131 rfl (lv_at hl 3 rfl) ?_
              refine og_words S hin hK hI (ix := 23) (by decide +kernel) dX0_make_132 ?_
              refine lv_iload hx hb dX0_make_135 (lv_at hl 0 rfl) ?_
              refine lv_iconst (v := 3) hx hb dX0_make_137 (by decide) ?_
              refine lv_iadd hx hb dX0_make_138 ?_
              refine lv_iload hx hb dX0_make_139 (lv_at hl 0 rfl) ?_
              refine lv_iconst (v := 3) hx hb dX0_make_141 (by decide) ?_
              refine lv_iadd hx hb dX0_make_142 ?_
              refine lv_iload_n hx hb dX0_make_143 rfl (lv_at hl 5 rfl) ?_
              refine lv_iadd hx hb dX0_make_144 ?_
              refine lv_iconst (v := (-1)) hx hb dX0_make_145 (by decide) ?_
              obtain ⟨c170, hg⟩ := ck_e hg
              obtain ⟨σ171, eσ171, hg⟩ := nmd_e hg
              refine ox_fill S hK hA hI c170 eσ171 gX0_make_J7_fill_fda19 hl.1 ⟨Nat.le_of_ble_eq_true rfl, Nat.le_of_ble_eq_true rfl⟩ ⟨by show ((((0 + 0) + 0) + c164) + 0) + 0 ≤ C; omega, by show ((((0 + 0) + 0) + n164) + 0) + 0 ≤ N; omega⟩ (Nat.le_of_ble_eq_true rfl) dX0_make_146 (fun H locs hI => ?_)
              refine lv_aload_n hx hb dX0_make_149 rfl (lv_at hl 3 rfl) ?_
              refine og_words S hin hK hI (ix := 23) (by decide +kernel) dX0_make_150 ?_
              refine lv_iload hx hb dX0_make_153 (lv_at hl 0 rfl) ?_
              refine lv_iconst (v := 0) hx hb dX0_make_155 (by decide) ?_
              refine lv_iadd hx hb dX0_make_156 ?_
              refine lv_iload_n hx hb dX0_make_157 rfl (lv_at hl 4 rfl) ?_
              refine lv_iload_n hx hb dX0_make_158 rfl (lv_at hl 5 rfl) ?_
              refine lv_iload_n hx hb dX0_make_159 rfl (lv_at hl 6 rfl) ?_
              refine lv_iload hx hb dX0_make_160 (lv_at hl 2 rfl) ?_
              obtain ⟨r172, er172, hg⟩ := bnp_e hg
              refine os_i S hA hI (As := [.int p1, .int p2, .int p3, .int x1]) (rest := [.int (x165 + 0), .ref (hw164, h.2.1, hn164, h.2.2.2).1]) (kX0_shapeOf l H.size F p1 p2 p3 x1 r172 er172) (va_cwS 4 hts gX0_make_X0_shapeOf rfl rfl rfl nX0_shapeOf ⟨Nat.le_of_ble_eq_true rfl, Nat.le_of_ble_eq_true rfl⟩) rfl hl.1 rfl (Nat.le_of_ble_eq_true rfl) dX0_make_162 ⟨by show (((((0 + 0) + 0) + c164) + 0) + 0) + 0 ≤ C; omega, by show (((((0 + 0) + 0) + n164) + 0) + 0) + 0 ≤ N; omega⟩ (fun H locs hI => ?_)
              obtain ⟨c173, hg⟩ := ck_e hg
              obtain ⟨σ174, eσ174, hg⟩ := nmd_e hg
              refine ou_words S hK hI c173 eσ174 dX0_make_165 (fun H locs hI => ?_)
              refine lv_aload_n hx hb dX0_make_166 rfl (lv_at hl 3 rfl) ?_
              refine og_words S hin hK hI (ix := 23) (by decide +kernel) dX0_make_167 ?_
              refine lv_iload hx hb dX0_make_170 (lv_at hl 0 rfl) ?_
              refine lv_iconst (v := 1) hx hb dX0_make_172 (by decide) ?_
              refine lv_iadd hx hb dX0_make_173 ?_
              refine lv_iconst (v := (-1)) hx hb dX0_make_174 (by decide) ?_
              obtain ⟨c175, hg⟩ := ck_e hg
              obtain ⟨σ176, eσ176, hg⟩ := nmd_e hg
              refine ou_words S hK hI c175 eσ176 dX0_make_175 (fun H locs hI => ?_)
              refine lv_iload hx hb dX0_make_176 (lv_at hl 0 rfl) ?_
              exact oye_i S hr hlocks hK hI rfl hg (by omega) (by omega) dX0_make_178
        · have hg := cIf_fe c150 hg
          obtain ⟨e1, e2, e3, e4⟩ := x4_e hg
          subst e1; subst e2
          exact oth2_y S hK hZ hI rfl hno hlocks htr (is := 211) (tx := "full") (by decide +kernel) (by decide +kernel) (by decide +kernel) (by decide +kernel) hl.1 dX0_make_64 dX0_make_67 dX0_make_68 dX0_make_70 dX0_make_73 (Nat.le_of_ble_eq_true rfl) (Nat.le_of_ble_eq_true rfl) (by show ((0 + 0) + 0) + 1 ≤ C; omega) (by show ((0 + 0) + 0) + 6 ≤ N; omega) (by omega) (by omega)
-- OwnMemory.makeFlat (may throw)
abbrev rX0_makeFlat (C N : Nat) : Room := { frames := 7, cells := C, slots := N, locals := 117 }
theorem nX0_makeFlat : yX0_makeFlat.cls = RX0 ∧ yX0_makeFlat.cls ≠ "java/lang/invoke/MethodHandle" ∧ yX0_makeFlat.cls ≠ "java/lang/invoke/VarHandle" ∧ (parseMethodDescriptor yX0_makeFlat.desc).map (fun d => d.parameters.length) = some 2 := by decide +kernel
noncomputable def fX0_makeFlat (F : Nat) (σ : oS) (p1 : Int32) (p2 : Int32) : xT Int32 := bndX (fX0_make F σ p1 0 0 (1 + ((p2 + 1) / 2))) (fun a1 σ1 => bnp (fX0_putLength F σ1 a1 p2) (fun σ2 => some (.inr a1, σ2, 0, 0)))
set_option maxHeartbeats 4000000 in
set_option maxRecDepth 100000 in
theorem kX0_makeFlat (l : Launch) (htr : l.stackTraces = false) (G : gT) (h0 : Nat) (h : oH) (sz F : Nat) (σ : oS) (p1 : Int32) (p2 : Int32) (r : Int32 ⊕ Int32) (σr : oS) (C N : Nat) (hg : fX0_makeFlat F σ p1 p2 = some (r, σr, C, N)) : vx_Met l yX0_makeFlat wsX0_makeFlat (rX0_makeFlat C N) (oPreX G h0 h σ sz [.int p1, .int p2]) (oyi G h0 h r σr (oA G h0 h σ sz)) (oyX G h0 h r σr (oA G h0 h σ sz)) C N (oA G h0 h σ sz) := by
  refine oxMet (Qc := oyi G h0 h r σr) (XC := oyX G h0 h r σr) (by decide +kernel) rfl rfl (Nat.le_of_ble_eq_true rfl) ?_
  intro p e s m args below meth c A S hr hlocks hno hK hA hZ H locs hI ls hl
  have hl : lv_has ls 4 [(0, .ref h0), (1, .int p1), (2, .int p2)] := hl
  have hin : ∀ w ∈ wsX00, w ∈ wsX0_makeFlat := by decide +kernel
  have hx := S.1
  have hb := S.2.1
  have hts := S.2.2.2.2
  have hown := S.2.2.2.1
  have hC : 0 + C ≤ C := by omega
  have hN : 0 + N ≤ N := by omega
  unfold fX0_makeFlat at hg
  refine lv_aload_n hx hb dX0_makeFlat_0 rfl (lv_at hl 0 rfl) ?_
  refine lv_iload_n hx hb dX0_makeFlat_1 rfl (lv_at hl 1 rfl) ?_
  refine lv_iconst (v := 0) hx hb dX0_makeFlat_2 (by decide) ?_
  refine lv_iconst (v := 0) hx hb dX0_makeFlat_3 (by decide) ?_
  refine lv_iconst (v := 1) hx hb dX0_makeFlat_4 (by decide) ?_
  refine lv_iload_n hx hb dX0_makeFlat_5 rfl (lv_at hl 2 rfl) ?_
  refine lv_iconst (v := 1) hx hb dX0_makeFlat_6 (by decide) ?_
  refine lv_iadd hx hb dX0_makeFlat_7 ?_
  refine lv_iconst (v := 2) hx hb dX0_makeFlat_8 (by decide) ?_
  refine lv_idiv hx hb dX0_makeFlat_9 (by decide) ?_
  refine lv_iadd hx hb dX0_makeFlat_10 ?_
  rcases bndX_e hg with ⟨e1, hc1, er⟩ | ⟨a1, σ1, c1, n1, C1, N1, hc1, hg, eC, eN⟩
  · subst er
    exact oyt_iy S hK hA hZ hI hno hlocks (As := [.int p1, .int 0, .int 0, .int (1 + ((p2 + 1) / 2))]) (rest := []) (kX0_make l htr G h0 h H.size F σ p1 0 0 (1 + ((p2 + 1) / 2)) _ _ _ _ hc1) (cwV 4 hts gX0_makeFlat_X0_make rfl rfl rfl nX0_make ⟨Nat.le_of_ble_eq_true rfl, Nat.le_of_ble_eq_true rfl⟩) rfl hl.1 rfl (Nat.le_of_ble_eq_true rfl) dX0_makeFlat_11 ⟨by show 0 + C ≤ C; omega, by show 0 + N ≤ N; omega⟩ rfl (by omega) (by omega)
  · refine oyc_i S hK hA hZ hI (As := [.int p1, .int 0, .int 0, .int (1 + ((p2 + 1) / 2))]) (rest := []) (kX0_make l htr G h0 h H.size F σ p1 0 0 (1 + ((p2 + 1) / 2)) _ _ _ _ hc1) (cwV 4 hts gX0_makeFlat_X0_make rfl rfl rfl nX0_make ⟨Nat.le_of_ble_eq_true rfl, Nat.le_of_ble_eq_true rfl⟩) rfl hl.1 rfl (Nat.le_of_ble_eq_true rfl) dX0_makeFlat_11 ⟨by show 0 + c1 ≤ C; omega, by show 0 + n1 ≤ N; omega⟩ (fun hw1 hn1 H locs hI => ?_)
    have hC : (0 + c1) + C1 ≤ C := by omega
    have hN : (0 + n1) + N1 ≤ N := by omega
    refine lv_istore_n (lv' := [(3, .int a1), (0, .ref h0), (1, .int p1), (2, .int p2)]) hx hb dX0_makeFlat_14 rfl hl (by decide) rfl (fun ls hl => ?_)
    refine lv_aload_n hx hb dX0_makeFlat_15 rfl (lv_at hl 1 rfl) ?_
    refine lv_iload_n hx hb dX0_makeFlat_16 rfl (lv_at hl 0 rfl) ?_
    refine lv_iload_n hx hb dX0_makeFlat_17 rfl (lv_at hl 3 rfl) ?_
    obtain ⟨σ2, eσ2, hg⟩ := bnp_e hg
    refine oc_v S hK hA hI (As := [.int a1, .int p2]) (rest := []) (kX0_putLength l G h0 (hw1, h.2.1, hn1, h.2.2.2) H.size F σ1 a1 p2  σ2 eσ2) (cwV 2 hts gX0_makeFlat_X0_putLength rfl rfl rfl nX0_putLength ⟨Nat.le_of_ble_eq_true rfl, Nat.le_of_ble_eq_true rfl⟩) rfl hl.1 rfl (Nat.le_of_ble_eq_true rfl) dX0_makeFlat_18 ⟨by show (0 + c1) + 0 ≤ C; omega, by show (0 + n1) + 0 ≤ N; omega⟩ (fun H locs hI => ?_)
    refine lv_iload_n hx hb dX0_makeFlat_21 rfl (lv_at hl 0 rfl) ?_
    exact oye_i S hr hlocks hK hI rfl hg (by omega) (by omega) dX0_makeFlat_22
-- OwnMemory.makeFlatOfTwo (may throw)
abbrev rX0_makeFlatOfTwo (C N : Nat) : Room := { frames := 8, cells := C, slots := N, locals := 140 }
theorem nX0_makeFlatOfTwo : yX0_makeFlatOfTwo.cls = RX0 ∧ yX0_makeFlatOfTwo.cls ≠ "java/lang/invoke/MethodHandle" ∧ yX0_makeFlatOfTwo.cls ≠ "java/lang/invoke/VarHandle" ∧ (parseMethodDescriptor yX0_makeFlatOfTwo.desc).map (fun d => d.parameters.length) = some 2 := by decide +kernel
noncomputable def fX0_makeFlatOfTwo (F : Nat) (σ : oS) (p1 : Int32) (p2 : Int32) : xT Int32 := bnd (fX0_lengthIn F σ p1) (fun r2 σ1 => bnd (fX0_lengthIn F σ1 p2) (fun r4 σ3 => bndX (fX0_makeFlat F σ3 2 (r2 + r4)) (fun a5 σ5 => ck (vp_in p1 24) (nmd (o_fr σ5 p1.toNatClampNeg) (fun x7 => bnp (fX0_copyUnits F σ5 x7 0 r2 a5 0) (fun σ8 => ck (vp_in p2 24) (nmd (o_fr σ8 p2.toNatClampNeg) (fun x10 => bnp (fX0_copyUnits F σ8 x10 0 r4 a5 r2) (fun σ11 => some (.inr a5, σ11, 0, 0))))))))))
set_option maxHeartbeats 4000000 in
set_option maxRecDepth 100000 in
theorem kX0_makeFlatOfTwo (l : Launch) (htr : l.stackTraces = false) (G : gT) (h0 : Nat) (h : oH) (sz F : Nat) (σ : oS) (p1 : Int32) (p2 : Int32) (r : Int32 ⊕ Int32) (σr : oS) (C N : Nat) (hg : fX0_makeFlatOfTwo F σ p1 p2 = some (r, σr, C, N)) : vx_Met l yX0_makeFlatOfTwo wsX0_makeFlatOfTwo (rX0_makeFlatOfTwo C N) (oPreX G h0 h σ sz [.int p1, .int p2]) (oyi G h0 h r σr (oA G h0 h σ sz)) (oyX G h0 h r σr (oA G h0 h σ sz)) C N (oA G h0 h σ sz) := by
  refine oxMet (Qc := oyi G h0 h r σr) (XC := oyX G h0 h r σr) (by decide +kernel) rfl rfl (Nat.le_of_ble_eq_true rfl) ?_
  intro p e s m args below meth c A S hr hlocks hno hK hA hZ H locs hI ls hl
  have hl : lv_has ls 6 [(0, .ref h0), (1, .int p1), (2, .int p2)] := hl
  have hin : ∀ w ∈ wsX00, w ∈ wsX0_makeFlatOfTwo := by decide +kernel
  have hx := S.1
  have hb := S.2.1
  have hts := S.2.2.2.2
  have hown := S.2.2.2.1
  have hC : 0 + C ≤ C := by omega
  have hN : 0 + N ≤ N := by omega
  unfold fX0_makeFlatOfTwo at hg
  refine lv_aload_n hx hb dX0_makeFlatOfTwo_0 rfl (lv_at hl 0 rfl) ?_
  refine lv_iload_n hx hb dX0_makeFlatOfTwo_1 rfl (lv_at hl 1 rfl) ?_
  obtain ⟨r2, σ1, er2, hg⟩ := bnd_e hg
  refine oc_i S hK hA hI (As := [.int p1]) (rest := []) (kX0_lengthIn l G h0 h H.size F σ p1  r2 σ1 er2) (cwV 1 hts gX0_makeFlatOfTwo_X0_lengthIn rfl rfl rfl nX0_lengthIn ⟨Nat.le_of_ble_eq_true rfl, Nat.le_of_ble_eq_true rfl⟩) rfl hl.1 rfl (Nat.le_of_ble_eq_true rfl) dX0_makeFlatOfTwo_2 ⟨by show 0 + 0 ≤ C; omega, by show 0 + 0 ≤ N; omega⟩ (fun H locs hI => ?_)
  refine lv_istore_n (lv' := [(3, .int r2), (0, .ref h0), (1, .int p1), (2, .int p2)]) hx hb dX0_makeFlatOfTwo_5 rfl hl (by decide) rfl (fun ls hl => ?_)
  refine lv_aload_n hx hb dX0_makeFlatOfTwo_6 rfl (lv_at hl 1 rfl) ?_
  refine lv_iload_n hx hb dX0_makeFlatOfTwo_7 rfl (lv_at hl 3 rfl) ?_
  obtain ⟨r4, σ3, er4, hg⟩ := bnd_e hg
  refine oc_i S hK hA hI (As := [.int p2]) (rest := []) (kX0_lengthIn l G h0 h H.size F σ1 p2  r4 σ3 er4) (cwV 1 hts gX0_makeFlatOfTwo_X0_lengthIn rfl rfl rfl nX0_lengthIn ⟨Nat.le_of_ble_eq_true rfl, Nat.le_of_ble_eq_true rfl⟩) rfl hl.1 rfl (Nat.le_of_ble_eq_true rfl) dX0_makeFlatOfTwo_8 ⟨by show (0 + 0) + 0 ≤ C; omega, by show (0 + 0) + 0 ≤ N; omega⟩ (fun H locs hI => ?_)
  refine lv_istore (lv' := [(4, .int r4), (3, .int r2), (0, .ref h0), (1, .int p1), (2, .int p2)]) hx hb dX0_makeFlatOfTwo_11 hl (by decide) rfl (fun ls hl => ?_)
  refine lv_aload_n hx hb dX0_makeFlatOfTwo_13 rfl (lv_at hl 2 rfl) ?_
  refine lv_iconst (v := 2) hx hb dX0_makeFlatOfTwo_14 (by decide) ?_
  refine lv_iload_n hx hb dX0_makeFlatOfTwo_15 rfl (lv_at hl 1 rfl) ?_
  refine lv_iload hx hb dX0_makeFlatOfTwo_16 (lv_at hl 0 rfl) ?_
  refine lv_iadd hx hb dX0_makeFlatOfTwo_18 ?_
  rcases bndX_e hg with ⟨e5, hc5, er⟩ | ⟨a5, σ5, c5, n5, C5, N5, hc5, hg, eC, eN⟩
  · subst er
    exact oyt_iy S hK hA hZ hI hno hlocks (As := [.int 2, .int (r2 + r4)]) (rest := []) (kX0_makeFlat l htr G h0 h H.size F σ3 2 (r2 + r4) _ _ _ _ hc5) (cwV 2 hts gX0_makeFlatOfTwo_X0_makeFlat rfl rfl rfl nX0_makeFlat ⟨Nat.le_of_ble_eq_true rfl, Nat.le_of_ble_eq_true rfl⟩) rfl hl.1 rfl (Nat.le_of_ble_eq_true rfl) dX0_makeFlatOfTwo_19 ⟨by show ((0 + 0) + 0) + C ≤ C; omega, by show ((0 + 0) + 0) + N ≤ N; omega⟩ rfl (by omega) (by omega)
  · refine oyc_i S hK hA hZ hI (As := [.int 2, .int (r2 + r4)]) (rest := []) (kX0_makeFlat l htr G h0 h H.size F σ3 2 (r2 + r4) _ _ _ _ hc5) (cwV 2 hts gX0_makeFlatOfTwo_X0_makeFlat rfl rfl rfl nX0_makeFlat ⟨Nat.le_of_ble_eq_true rfl, Nat.le_of_ble_eq_true rfl⟩) rfl hl.1 rfl (Nat.le_of_ble_eq_true rfl) dX0_makeFlatOfTwo_19 ⟨by show ((0 + 0) + 0) + c5 ≤ C; omega, by show ((0 + 0) + 0) + n5 ≤ N; omega⟩ (fun hw5 hn5 H locs hI => ?_)
    have hC : (((0 + 0) + 0) + c5) + C5 ≤ C := by omega
    have hN : (((0 + 0) + 0) + n5) + N5 ≤ N := by omega
    refine lv_istore (lv' := [(5, .int a5), (4, .int r4), (3, .int r2), (0, .ref h0), (1, .int p1), (2, .int p2)]) hx hb dX0_makeFlatOfTwo_22 hl (by decide) rfl (fun ls hl => ?_)
    refine lv_aload_n hx hb dX0_makeFlatOfTwo_24 rfl (lv_at hl 3 rfl) ?_
    refine lv_aload_n hx hb dX0_makeFlatOfTwo_25 rfl (lv_at hl 3 rfl) ?_
    refine og_roots S hin hK hI (ix := 30) (by decide +kernel) dX0_makeFlatOfTwo_26 ?_
    refine lv_iload_n hx hb dX0_makeFlatOfTwo_29 rfl (lv_at hl 4 rfl) ?_
    obtain ⟨c6, hg⟩ := ck_e hg
    obtain ⟨x7, ex7, hg⟩ := nmd_e hg
    refine or_roots S hK hI c6 ex7 dX0_makeFlatOfTwo_30 ?_
    refine lv_iconst (v := 0) hx hb dX0_makeFlatOfTwo_31 (by decide) ?_
    refine lv_iload_n hx hb dX0_makeFlatOfTwo_32 rfl (lv_at hl 2 rfl) ?_
    refine lv_iload hx hb dX0_makeFlatOfTwo_33 (lv_at hl 0 rfl) ?_
    refine lv_iconst (v := 0) hx hb dX0_makeFlatOfTwo_35 (by decide) ?_
    obtain ⟨σ8, eσ8, hg⟩ := bnp_e hg
    refine oc_v S hK hA hI (As := [.int x7, .int 0, .int r2, .int a5, .int 0]) (rest := []) (kX0_copyUnits l G h0 (hw5, h.2.1, hn5, h.2.2.2) H.size F σ5 x7 0 r2 a5 0  σ8 eσ8) (cwV 5 hts gX0_makeFlatOfTwo_X0_copyUnits rfl rfl rfl nX0_copyUnits ⟨Nat.le_of_ble_eq_true rfl, Nat.le_of_ble_eq_true rfl⟩) rfl hl.1 rfl (Nat.le_of_ble_eq_true rfl) dX0_makeFlatOfTwo_36 ⟨by show (((0 + 0) + 0) + c5) + 0 ≤ C; omega, by show (((0 + 0) + 0) + n5) + 0 ≤ N; omega⟩ (fun H locs hI => ?_)
    refine lv_aload_n hx hb dX0_makeFlatOfTwo_39 rfl (lv_at hl 3 rfl) ?_
    refine lv_aload_n hx hb dX0_makeFlatOfTwo_40 rfl (lv_at hl 3 rfl) ?_
    refine og_roots S hin hK hI (ix := 30) (by decide +kernel) dX0_makeFlatOfTwo_41 ?_
    refine lv_iload_n hx hb dX0_makeFlatOfTwo_44 rfl (lv_at hl 5 rfl) ?_
    obtain ⟨c9, hg⟩ := ck_e hg
    obtain ⟨x10, ex10, hg⟩ := nmd_e hg
    refine or_roots S hK hI c9 ex10 dX0_makeFlatOfTwo_45 ?_
    refine lv_iconst (v := 0) hx hb dX0_makeFlatOfTwo_46 (by decide) ?_
    refine lv_iload hx hb dX0_makeFlatOfTwo_47 (lv_at hl 1 rfl) ?_
    refine lv_iload hx hb dX0_makeFlatOfTwo_49 (lv_at hl 0 rfl) ?_
    refine lv_iload_n hx hb dX0_makeFlatOfTwo_51 rfl (lv_at hl 2 rfl) ?_
    obtain ⟨σ11, eσ11, hg⟩ := bnp_e hg
    refine oc_v S hK hA hI (As := [.int x10, .int 0, .int r4, .int a5, .int r2]) (rest := []) (kX0_copyUnits l G h0 (hw5, h.2.1, hn5, h.2.2.2) H.size F σ8 x10 0 r4 a5 r2  σ11 eσ11) (cwV 5 hts gX0_makeFlatOfTwo_X0_copyUnits rfl rfl rfl nX0_copyUnits ⟨Nat.le_of_ble_eq_true rfl, Nat.le_of_ble_eq_true rfl⟩) rfl hl.1 rfl (Nat.le_of_ble_eq_true rfl) dX0_makeFlatOfTwo_52 ⟨by show ((((0 + 0) + 0) + c5) + 0) + 0 ≤ C; omega, by show ((((0 + 0) + 0) + n5) + 0) + 0 ≤ N; omega⟩ (fun H locs hI => ?_)
    refine lv_iload hx hb dX0_makeFlatOfTwo_55 (lv_at hl 0 rfl) ?_
    exact oye_i S hr hlocks hK hI rfl hg (by omega) (by omega) dX0_makeFlatOfTwo_57
-- OwnMemory.makeJoined (may throw)
abbrev rX0_makeJoined (C N : Nat) : Room := { frames := 7, cells := C, slots := N, locals := 117 }
theorem nX0_makeJoined : yX0_makeJoined.cls = RX0 ∧ yX0_makeJoined.cls ≠ "java/lang/invoke/MethodHandle" ∧ yX0_makeJoined.cls ≠ "java/lang/invoke/VarHandle" ∧ (parseMethodDescriptor yX0_makeJoined.desc).map (fun d => d.parameters.length) = some 2 := by decide +kernel
noncomputable def fX0_makeJoined (F : Nat) (σ : oS) (p1 : Int32) (p2 : Int32) : xT Int32 := bndX (fX0_make F σ 3 2 0 1) (fun a1 σ1 => bnd (fX0_lengthIn F σ1 p1) (fun r3 σ2 => bnd (fX0_lengthIn F σ2 p2) (fun r5 σ4 => bnp (fX0_putLength F σ4 a1 (r3 + r5)) (fun σ6 => ck (vp_in p1 24) (nmd (o_fr σ6 p1.toNatClampNeg) (fun x8 => ck (vp_in (a1 + 3) (o_lw σ6)) (nmd (o_s_fw σ6 (upd (o_fw σ6) (a1 + 3).toNatClampNeg x8)) (fun σ10 => ck (vp_in p2 24) (nmd (o_fr σ10 p2.toNatClampNeg) (fun x12 => ck (vp_in (a1 + 4) (o_lw σ10)) (nmd (o_s_fw σ10 (upd (o_fw σ10) (a1 + 4).toNatClampNeg x12)) (fun σ14 => some (.inr a1, σ14, 0, 0)))))))))))))
set_option maxHeartbeats 4000000 in
set_option maxRecDepth 100000 in
theorem kX0_makeJoined (l : Launch) (htr : l.stackTraces = false) (G : gT) (h0 : Nat) (h : oH) (sz F : Nat) (σ : oS) (p1 : Int32) (p2 : Int32) (r : Int32 ⊕ Int32) (σr : oS) (C N : Nat) (hg : fX0_makeJoined F σ p1 p2 = some (r, σr, C, N)) : vx_Met l yX0_makeJoined wsX0_makeJoined (rX0_makeJoined C N) (oPreX G h0 h σ sz [.int p1, .int p2]) (oyi G h0 h r σr (oA G h0 h σ sz)) (oyX G h0 h r σr (oA G h0 h σ sz)) C N (oA G h0 h σ sz) := by
  refine oxMet (Qc := oyi G h0 h r σr) (XC := oyX G h0 h r σr) (by decide +kernel) rfl rfl (Nat.le_of_ble_eq_true rfl) ?_
  intro p e s m args below meth c A S hr hlocks hno hK hA hZ H locs hI ls hl
  have hl : lv_has ls 4 [(0, .ref h0), (1, .int p1), (2, .int p2)] := hl
  have hin : ∀ w ∈ wsX00, w ∈ wsX0_makeJoined := by decide +kernel
  have hx := S.1
  have hb := S.2.1
  have hts := S.2.2.2.2
  have hown := S.2.2.2.1
  have hC : 0 + C ≤ C := by omega
  have hN : 0 + N ≤ N := by omega
  unfold fX0_makeJoined at hg
  refine lv_aload_n hx hb dX0_makeJoined_0 rfl (lv_at hl 0 rfl) ?_
  refine lv_iconst (v := 3) hx hb dX0_makeJoined_1 (by decide) ?_
  refine lv_iconst (v := 2) hx hb dX0_makeJoined_2 (by decide) ?_
  refine lv_iconst (v := 0) hx hb dX0_makeJoined_3 (by decide) ?_
  refine lv_iconst (v := 1) hx hb dX0_makeJoined_4 (by decide) ?_
  rcases bndX_e hg with ⟨e1, hc1, er⟩ | ⟨a1, σ1, c1, n1, C1, N1, hc1, hg, eC, eN⟩
  · subst er
    exact oyt_iy S hK hA hZ hI hno hlocks (As := [.int 3, .int 2, .int 0, .int 1]) (rest := []) (kX0_make l htr G h0 h H.size F σ 3 2 0 1 _ _ _ _ hc1) (cwV 4 hts gX0_makeJoined_X0_make rfl rfl rfl nX0_make ⟨Nat.le_of_ble_eq_true rfl, Nat.le_of_ble_eq_true rfl⟩) rfl hl.1 rfl (Nat.le_of_ble_eq_true rfl) dX0_makeJoined_5 ⟨by show 0 + C ≤ C; omega, by show 0 + N ≤ N; omega⟩ rfl (by omega) (by omega)
  · refine oyc_i S hK hA hZ hI (As := [.int 3, .int 2, .int 0, .int 1]) (rest := []) (kX0_make l htr G h0 h H.size F σ 3 2 0 1 _ _ _ _ hc1) (cwV 4 hts gX0_makeJoined_X0_make rfl rfl rfl nX0_make ⟨Nat.le_of_ble_eq_true rfl, Nat.le_of_ble_eq_true rfl⟩) rfl hl.1 rfl (Nat.le_of_ble_eq_true rfl) dX0_makeJoined_5 ⟨by show 0 + c1 ≤ C; omega, by show 0 + n1 ≤ N; omega⟩ (fun hw1 hn1 H locs hI => ?_)
    have hC : (0 + c1) + C1 ≤ C := by omega
    have hN : (0 + n1) + N1 ≤ N := by omega
    refine lv_istore_n (lv' := [(3, .int a1), (0, .ref h0), (1, .int p1), (2, .int p2)]) hx hb dX0_makeJoined_8 rfl hl (by decide) rfl (fun ls hl => ?_)
    refine lv_aload_n hx hb dX0_makeJoined_9 rfl (lv_at hl 1 rfl) ?_
    refine lv_iload_n hx hb dX0_makeJoined_10 rfl (lv_at hl 0 rfl) ?_
    refine lv_aload_n hx hb dX0_makeJoined_11 rfl (lv_at hl 1 rfl) ?_
    refine lv_iload_n hx hb dX0_makeJoined_12 rfl (lv_at hl 2 rfl) ?_
    obtain ⟨r3, σ2, er3, hg⟩ := bnd_e hg
    refine oc_i S hK hA hI (As := [.int p1]) (rest := [.int a1, .ref h0]) (kX0_lengthIn l G h0 (hw1, h.2.1, hn1, h.2.2.2) H.size F σ1 p1  r3 σ2 er3) (cwV 1 hts gX0_makeJoined_X0_lengthIn rfl rfl rfl nX0_lengthIn ⟨Nat.le_of_ble_eq_true rfl, Nat.le_of_ble_eq_true rfl⟩) rfl hl.1 rfl (Nat.le_of_ble_eq_true rfl) dX0_makeJoined_13 ⟨by show (0 + c1) + 0 ≤ C; omega, by show (0 + n1) + 0 ≤ N; omega⟩ (fun H locs hI => ?_)
    refine lv_aload_n hx hb dX0_makeJoined_16 rfl (lv_at hl 1 rfl) ?_
    refine lv_iload_n hx hb dX0_makeJoined_17 rfl (lv_at hl 3 rfl) ?_
    obtain ⟨r5, σ4, er5, hg⟩ := bnd_e hg
    refine oc_i S hK hA hI (As := [.int p2]) (rest := [.int r3, .int a1, .ref h0]) (kX0_lengthIn l G h0 (hw1, h.2.1, hn1, h.2.2.2) H.size F σ2 p2  r5 σ4 er5) (cwV 1 hts gX0_makeJoined_X0_lengthIn rfl rfl rfl nX0_lengthIn ⟨Nat.le_of_ble_eq_true rfl, Nat.le_of_ble_eq_true rfl⟩) rfl hl.1 rfl (Nat.le_of_ble_eq_true rfl) dX0_makeJoined_18 ⟨by show ((0 + c1) + 0) + 0 ≤ C; omega, by show ((0 + n1) + 0) + 0 ≤ N; omega⟩ (fun H locs hI => ?_)
    refine lv_iadd hx hb dX0_makeJoined_21 ?_
    obtain ⟨σ6, eσ6, hg⟩ := bnp_e hg
    refine oc_v S hK hA hI (As := [.int a1, .int (r3 + r5)]) (rest := []) (kX0_putLength l G h0 (hw1, h.2.1, hn1, h.2.2.2) H.size F σ4 a1 (r3 + r5)  σ6 eσ6) (cwV 2 hts gX0_makeJoined_X0_putLength rfl rfl rfl nX0_putLength ⟨Nat.le_of_ble_eq_true rfl, Nat.le_of_ble_eq_true rfl⟩) rfl hl.1 rfl (Nat.le_of_ble_eq_true rfl) dX0_makeJoined_22 ⟨by show (((0 + c1) + 0) + 0) + 0 ≤ C; omega, by show (((0 + n1) + 0) + 0) + 0 ≤ N; omega⟩ (fun H locs hI => ?_)
    refine lv_aload_n hx hb dX0_makeJoined_25 rfl (lv_at hl 1 rfl) ?_
    refine og_words S hin hK hI (ix := 23) (by decide +kernel) dX0_makeJoined_26 ?_
    refine lv_iload_n hx hb dX0_makeJoined_29 rfl (lv_at hl 0 rfl) ?_
    refine lv_iconst (v := 3) hx hb dX0_makeJoined_30 (by decide) ?_
    refine lv_iadd hx hb dX0_makeJoined_31 ?_
    refine lv_aload_n hx hb dX0_makeJoined_32 rfl (lv_at hl 1 rfl) ?_
    refine og_roots S hin hK hI (ix := 30) (by decide +kernel) dX0_makeJoined_33 ?_
    refine lv_iload_n hx hb dX0_makeJoined_36 rfl (lv_at hl 2 rfl) ?_
    obtain ⟨c7, hg⟩ := ck_e hg
    obtain ⟨x8, ex8, hg⟩ := nmd_e hg
    refine or_roots S hK hI c7 ex8 dX0_makeJoined_37 ?_
    obtain ⟨c9, hg⟩ := ck_e hg
    obtain ⟨σ10, eσ10, hg⟩ := nmd_e hg
    refine ou_words S hK hI c9 eσ10 dX0_makeJoined_38 (fun H locs hI => ?_)
    refine lv_aload_n hx hb dX0_makeJoined_39 rfl (lv_at hl 1 rfl) ?_
    refine og_words S hin hK hI (ix := 23) (by decide +kernel) dX0_makeJoined_40 ?_
    refine lv_iload_n hx hb dX0_makeJoined_43 rfl (lv_at hl 0 rfl) ?_
    refine lv_iconst (v := 4) hx hb dX0_makeJoined_44 (by decide) ?_
    refine lv_iadd hx hb dX0_makeJoined_45 ?_
    refine lv_aload_n hx hb dX0_makeJoined_46 rfl (lv_at hl 1 rfl) ?_
    refine og_roots S hin hK hI (ix := 30) (by decide +kernel) dX0_makeJoined_47 ?_
    refine lv_iload_n hx hb dX0_makeJoined_50 rfl (lv_at hl 3 rfl) ?_
    obtain ⟨c11, hg⟩ := ck_e hg
    obtain ⟨x12, ex12, hg⟩ := nmd_e hg
    refine or_roots S hK hI c11 ex12 dX0_makeJoined_51 ?_
    obtain ⟨c13, hg⟩ := ck_e hg
    obtain ⟨σ14, eσ14, hg⟩ := nmd_e hg
    refine ou_words S hK hI c13 eσ14 dX0_makeJoined_52 (fun H locs hI => ?_)
    refine lv_iload_n hx hb dX0_makeJoined_53 rfl (lv_at hl 0 rfl) ?_
    exact oye_i S hr hlocks hK hI rfl hg (by omega) (by omega) dX0_makeJoined_54
-- OwnMemory.goOver (may throw)
abbrev rX0_goOver (C N : Nat) : Room := { frames := 8, cells := C, slots := N, locals := 140 }
theorem nX0_goOver : yX0_goOver.cls = RX0 ∧ yX0_goOver.cls ≠ "java/lang/invoke/MethodHandle" ∧ yX0_goOver.cls ≠ "java/lang/invoke/VarHandle" ∧ (parseMethodDescriptor yX0_goOver.desc).map (fun d => d.parameters.length) = some 1 := by decide +kernel
noncomputable def fX0_goOver (F : Nat) (σ : oS) (p1 : Int32) : xT Unit := ck (vp_in p1 24) (nmd (o_fr σ p1.toNatClampNeg) (fun x2 => bnd (fX0_kindAt F σ x2) (fun r4 σ3 => cIf (r4 = 3) (bnd (fX0_lengthIn F σ3 p1) (fun r7 σ6 => bndX (fX0_makeFlat F σ6 2 r7) (fun a8 σ8 => ck (vp_in p1 24) (nmd (o_fr σ8 p1.toNatClampNeg) (fun x10 => bnp (fX0_copyAllUnits F σ8 x10 a8) (fun σ11 => bnd (fX0_sizeAt F σ11 x10) (fun r13 σ12 => bnp (fX0_shapeOf F 4 2 0 r13) (fun r14 => ck (vp_in (x10 + 0) (o_lw σ12)) (nmd (o_s_fw σ12 (upd (o_fw σ12) (x10 + 0).toNatClampNeg r14)) (fun σ16 => ck (vp_in (x10 + 3) (o_lw σ16)) (nmd (o_s_fw σ16 (upd (o_fw σ16) (x10 + 3).toNatClampNeg a8)) (fun σ18 => ck (vp_in (x10 + 4) (o_lw σ18)) (nmd (o_s_fw σ18 (upd (o_fw σ18) (x10 + 4).toNatClampNeg (-1))) (fun σ20 => some (.inr (), σ20, 0, 0))))))))))))))) (some (.inr (), σ3, 0, 0)))))
set_option maxHeartbeats 4000000 in
set_option maxRecDepth 100000 in
theorem kX0_goOver (l : Launch) (htr : l.stackTraces = false) (G : gT) (h0 : Nat) (h : oH) (sz F : Nat) (σ : oS) (p1 : Int32) (r : Int32 ⊕ Unit) (σr : oS) (C N : Nat) (hg : fX0_goOver F σ p1 = some (r, σr, C, N)) : vx_Met l yX0_goOver wsX0_goOver (rX0_goOver C N) (oPreX G h0 h σ sz [.int p1]) (oyv G h0 h r σr (oA G h0 h σ sz)) (oyX G h0 h r σr (oA G h0 h σ sz)) C N (oA G h0 h σ sz) := by
  refine oxMet (Qc := oyv G h0 h r σr) (XC := oyX G h0 h r σr) (by decide +kernel) rfl rfl (Nat.le_of_ble_eq_true rfl) ?_
  intro p e s m args below meth c A S hr hlocks hno hK hA hZ H locs hI ls hl
  have hl : lv_has ls 4 [(0, .ref h0), (1, .int p1)] := hl
  have hin : ∀ w ∈ wsX00, w ∈ wsX0_goOver := by decide +kernel
  have hx := S.1
  have hb := S.2.1
  have hts := S.2.2.2.2
  have hown := S.2.2.2.1
  have hC : 0 + C ≤ C := by omega
  have hN : 0 + N ≤ N := by omega
  unfold fX0_goOver at hg
  refine lv_aload_n hx hb dX0_goOver_0 rfl (lv_at hl 0 rfl) ?_
  refine lv_aload_n hx hb dX0_goOver_1 rfl (lv_at hl 0 rfl) ?_
  refine og_roots S hin hK hI (ix := 30) (by decide +kernel) dX0_goOver_2 ?_
  refine lv_iload_n hx hb dX0_goOver_5 rfl (lv_at hl 1 rfl) ?_
  obtain ⟨c1, hg⟩ := ck_e hg
  obtain ⟨x2, ex2, hg⟩ := nmd_e hg
  refine or_roots S hK hI c1 ex2 dX0_goOver_6 ?_
  obtain ⟨r4, σ3, er4, hg⟩ := bnd_e hg
  refine oc_i S hK hA hI (As := [.int x2]) (rest := []) (kX0_kindAt l G h0 h H.size F σ x2  r4 σ3 er4) (cwV 1 hts gX0_goOver_X0_kindAt rfl rfl rfl nX0_kindAt ⟨Nat.le_of_ble_eq_true rfl, Nat.le_of_ble_eq_true rfl⟩) rfl hl.1 rfl (Nat.le_of_ble_eq_true rfl) dX0_goOver_7 ⟨by show 0 + 0 ≤ C; omega, by show 0 + 0 ≤ N; omega⟩ (fun H locs hI => ?_)
  refine lv_iconst (v := 3) hx hb dX0_goOver_10 (by decide) ?_
  refine lv_icmp_eq (tgt := 15) hx hb dX0_goOver_11 (by decide) (fun c5 => ?_) (fun c5 => ?_)
  · have hg := cIf_te c5 hg
    refine lv_aload_n hx hb dX0_goOver_15 rfl (lv_at hl 0 rfl) ?_
    refine lv_iconst (v := 2) hx hb dX0_goOver_16 (by decide) ?_
    refine lv_aload_n hx hb dX0_goOver_17 rfl (lv_at hl 0 rfl) ?_
    refine lv_iload_n hx hb dX0_goOver_18 rfl (lv_at hl 1 rfl) ?_
    obtain ⟨r7, σ6, er7, hg⟩ := bnd_e hg
    refine oc_i S hK hA hI (As := [.int p1]) (rest := [.int 2, .ref h0]) (kX0_lengthIn l G h0 h H.size F σ3 p1  r7 σ6 er7) (cwV 1 hts gX0_goOver_X0_lengthIn rfl rfl rfl nX0_lengthIn ⟨Nat.le_of_ble_eq_true rfl, Nat.le_of_ble_eq_true rfl⟩) rfl hl.1 rfl (Nat.le_of_ble_eq_true rfl) dX0_goOver_19 ⟨by show (0 + 0) + 0 ≤ C; omega, by show (0 + 0) + 0 ≤ N; omega⟩ (fun H locs hI => ?_)
    rcases bndX_e hg with ⟨e8, hc8, er⟩ | ⟨a8, σ8, c8, n8, C8, N8, hc8, hg, eC, eN⟩
    · subst er
      exact oyt_iy S hK hA hZ hI hno hlocks (As := [.int 2, .int r7]) (rest := []) (kX0_makeFlat l htr G h0 h H.size F σ6 2 r7 _ _ _ _ hc8) (cwV 2 hts gX0_goOver_X0_makeFlat rfl rfl rfl nX0_makeFlat ⟨Nat.le_of_ble_eq_true rfl, Nat.le_of_ble_eq_true rfl⟩) rfl hl.1 rfl (Nat.le_of_ble_eq_true rfl) dX0_goOver_22 ⟨by show ((0 + 0) + 0) + C ≤ C; omega, by show ((0 + 0) + 0) + N ≤ N; omega⟩ rfl (by omega) (by omega)
    · refine oyc_i S hK hA hZ hI (As := [.int 2, .int r7]) (rest := []) (kX0_makeFlat l htr G h0 h H.size F σ6 2 r7 _ _ _ _ hc8) (cwV 2 hts gX0_goOver_X0_makeFlat rfl rfl rfl nX0_makeFlat ⟨Nat.le_of_ble_eq_true rfl, Nat.le_of_ble_eq_true rfl⟩) rfl hl.1 rfl (Nat.le_of_ble_eq_true rfl) dX0_goOver_22 ⟨by show ((0 + 0) + 0) + c8 ≤ C; omega, by show ((0 + 0) + 0) + n8 ≤ N; omega⟩ (fun hw8 hn8 H locs hI => ?_)
      have hC : (((0 + 0) + 0) + c8) + C8 ≤ C := by omega
      have hN : (((0 + 0) + 0) + n8) + N8 ≤ N := by omega
      refine lv_istore_n (lv' := [(2, .int a8), (0, .ref h0), (1, .int p1)]) hx hb dX0_goOver_25 rfl hl (by decide) rfl (fun ls hl => ?_)
      refine lv_aload_n hx hb dX0_goOver_26 rfl (lv_at hl 1 rfl) ?_
      refine og_roots S hin hK hI (ix := 30) (by decide +kernel) dX0_goOver_27 ?_
      refine lv_iload_n hx hb dX0_goOver_30 rfl (lv_at hl 2 rfl) ?_
      obtain ⟨c9, hg⟩ := ck_e hg
      obtain ⟨x10, ex10, hg⟩ := nmd_e hg
      refine or_roots S hK hI c9 ex10 dX0_goOver_31 ?_
      refine lv_istore_n (lv' := [(3, .int x10), (2, .int a8), (0, .ref h0), (1, .int p1)]) hx hb dX0_goOver_32 rfl hl (by decide) rfl (fun ls hl => ?_)
      refine lv_aload_n hx hb dX0_goOver_33 rfl (lv_at hl 2 rfl) ?_
      refine lv_iload_n hx hb dX0_goOver_34 rfl (lv_at hl 0 rfl) ?_
      refine lv_iload_n hx hb dX0_goOver_35 rfl (lv_at hl 1 rfl) ?_
      obtain ⟨σ11, eσ11, hg⟩ := bnp_e hg
      refine oc_v S hK hA hI (As := [.int x10, .int a8]) (rest := []) (kX0_copyAllUnits l G h0 (hw8, h.2.1, hn8, h.2.2.2) H.size F σ8 x10 a8  σ11 eσ11) (cwV 2 hts gX0_goOver_X0_copyAllUnits rfl rfl rfl nX0_copyAllUnits ⟨Nat.le_of_ble_eq_true rfl, Nat.le_of_ble_eq_true rfl⟩) rfl hl.1 rfl (Nat.le_of_ble_eq_true rfl) dX0_goOver_36 ⟨by show (((0 + 0) + 0) + c8) + 0 ≤ C; omega, by show (((0 + 0) + 0) + n8) + 0 ≤ N; omega⟩ (fun H locs hI => ?_)
      refine lv_aload_n hx hb dX0_goOver_39 rfl (lv_at hl 2 rfl) ?_
      refine og_words S hin hK hI (ix := 23) (by decide +kernel) dX0_goOver_40 ?_
      refine lv_iload_n hx hb dX0_goOver_43 rfl (lv_at hl 0 rfl) ?_
      refine lv_iconst (v := 0) hx hb dX0_goOver_44 (by decide) ?_
      refine lv_iadd hx hb dX0_goOver_45 ?_
      refine lv_iconst (v := 4) hx hb dX0_goOver_46 (by decide) ?_
      refine lv_iconst (v := 2) hx hb dX0_goOver_47 (by decide) ?_
      refine lv_iconst (v := 0) hx hb dX0_goOver_48 (by decide) ?_
      refine lv_aload_n hx hb dX0_goOver_49 rfl (lv_at hl 2 rfl) ?_
      refine lv_iload_n hx hb dX0_goOver_50 rfl (lv_at hl 0 rfl) ?_
      obtain ⟨r13, σ12, er13, hg⟩ := bnd_e hg
      refine oc_i S hK hA hI (As := [.int x10]) (rest := [.int 0, .int 2, .int 4, .int (x10 + 0), .ref (hw8, h.2.1, hn8, h.2.2.2).1]) (kX0_sizeAt l G h0 (hw8, h.2.1, hn8, h.2.2.2) H.size F σ11 x10  r13 σ12 er13) (cwV 1 hts gX0_goOver_X0_sizeAt rfl rfl rfl nX0_sizeAt ⟨Nat.le_of_ble_eq_true rfl, Nat.le_of_ble_eq_true rfl⟩) rfl hl.1 rfl (Nat.le_of_ble_eq_true rfl) dX0_goOver_51 ⟨by show ((((0 + 0) + 0) + c8) + 0) + 0 ≤ C; omega, by show ((((0 + 0) + 0) + n8) + 0) + 0 ≤ N; omega⟩ (fun H locs hI => ?_)
      obtain ⟨r14, er14, hg⟩ := bnp_e hg
      refine os_i S hA hI (As := [.int 4, .int 2, .int 0, .int r13]) (rest := [.int (x10 + 0), .ref (hw8, h.2.1, hn8, h.2.2.2).1]) (kX0_shapeOf l H.size F 4 2 0 r13 r14 er14) (va_cwS 4 hts gX0_goOver_X0_shapeOf rfl rfl rfl nX0_shapeOf ⟨Nat.le_of_ble_eq_true rfl, Nat.le_of_ble_eq_true rfl⟩) rfl hl.1 rfl (Nat.le_of_ble_eq_true rfl) dX0_goOver_54 ⟨by show (((((0 + 0) + 0) + c8) + 0) + 0) + 0 ≤ C; omega, by show (((((0 + 0) + 0) + n8) + 0) + 0) + 0 ≤ N; omega⟩ (fun H locs hI => ?_)
      obtain ⟨c15, hg⟩ := ck_e hg
      obtain ⟨σ16, eσ16, hg⟩ := nmd_e hg
      refine ou_words S hK hI c15 eσ16 dX0_goOver_57 (fun H locs hI => ?_)
      refine lv_aload_n hx hb dX0_goOver_58 rfl (lv_at hl 2 rfl) ?_
      refine og_words S hin hK hI (ix := 23) (by decide +kernel) dX0_goOver_59 ?_
      refine lv_iload_n hx hb dX0_goOver_62 rfl (lv_at hl 0 rfl) ?_
      refine lv_iconst (v := 3) hx hb dX0_goOver_63 (by decide) ?_
      refine lv_iadd hx hb dX0_goOver_64 ?_
      refine lv_iload_n hx hb dX0_goOver_65 rfl (lv_at hl 1 rfl) ?_
      obtain ⟨c17, hg⟩ := ck_e hg
      obtain ⟨σ18, eσ18, hg⟩ := nmd_e hg
      refine ou_words S hK hI c17 eσ18 dX0_goOver_66 (fun H locs hI => ?_)
      refine lv_aload_n hx hb dX0_goOver_67 rfl (lv_at hl 2 rfl) ?_
      refine og_words S hin hK hI (ix := 23) (by decide +kernel) dX0_goOver_68 ?_
      refine lv_iload_n hx hb dX0_goOver_71 rfl (lv_at hl 0 rfl) ?_
      refine lv_iconst (v := 4) hx hb dX0_goOver_72 (by decide) ?_
      refine lv_iadd hx hb dX0_goOver_73 ?_
      refine lv_iconst (v := (-1)) hx hb dX0_goOver_74 (by decide) ?_
      obtain ⟨c19, hg⟩ := ck_e hg
      obtain ⟨σ20, eσ20, hg⟩ := nmd_e hg
      refine ou_words S hK hI c19 eσ20 dX0_goOver_75 (fun H locs hI => ?_)
      exact oye_v S hr hlocks hK hI rfl hg (by omega) (by omega) dX0_goOver_76
  · have hg := cIf_fe c5 hg
    exact oye_v S hr hlocks hK hI rfl hg (by omega) (by omega) dX0_goOver_14
-- OwnMemory.makeName (may throw)
abbrev rX0_makeName (C N : Nat) : Room := { frames := 8, cells := C, slots := N, locals := 140 }
theorem nX0_makeName : yX0_makeName.cls = RX0 ∧ yX0_makeName.cls ≠ "java/lang/invoke/MethodHandle" ∧ yX0_makeName.cls ≠ "java/lang/invoke/VarHandle" ∧ (parseMethodDescriptor yX0_makeName.desc).map (fun d => d.parameters.length) = some 1 := by decide +kernel
noncomputable def fX0_makeName (F : Nat) (σ : oS) (p1 : Int32) : xT Int32 := bnd (fX0_lengthIn F σ p1) (fun r2 σ1 => bndX (fX0_makeFlat F σ1 5 r2) (fun a3 σ3 => ck (vp_in p1 24) (nmd (o_fr σ3 p1.toNatClampNeg) (fun x5 => bnd (fX0_flatOf F σ3 x5) (fun r7 σ6 => bnp (fX0_copyUnits F σ6 r7 0 r2 a3 0) (fun σ8 => cIf ((o_nc σ8) = (nI (o_ln σ8))) (addC 1 (2 * (o_nc σ8)).toNatClampNeg (ck (¬ (2 * (o_nc σ8)) < 0 ∧ o_ln σ8 < (2 * (o_nc σ8)).toNatClampNeg ∧ (2 * (o_nc σ8)).toNatClampNeg ≤ 1048576) (nmd (o_s_fn (o_s_ln σ8 (2 * (o_nc σ8)).toNatClampNeg) (grown (o_fn σ8) (o_ln σ8))) (fun σ14 => ck (vp_in (o_nc σ14) (o_ln σ14)) (nmd (o_s_fn σ14 (upd (o_fn σ14) (o_nc σ14).toNatClampNeg a3)) (fun σ17 => nmd (o_s_nc σ17 ((o_nc σ17) + 1)) (fun σ18 => some (.inr a3, σ18, 0, 0)))))))) (ck (vp_in (o_nc σ8) (o_ln σ8)) (nmd (o_s_fn σ8 (upd (o_fn σ8) (o_nc σ8).toNatClampNeg a3)) (fun σ11 => nmd (o_s_nc σ11 ((o_nc σ11) + 1)) (fun σ12 => some (.inr a3, σ12, 0, 0)))))))))))
set_option maxHeartbeats 4000000 in
set_option maxRecDepth 100000 in
theorem kX0_makeName (l : Launch) (htr : l.stackTraces = false) (G : gT) (h0 : Nat) (h : oH) (sz F : Nat) (σ : oS) (p1 : Int32) (r : Int32 ⊕ Int32) (σr : oS) (C N : Nat) (hg : fX0_makeName F σ p1 = some (r, σr, C, N)) : vx_Met l yX0_makeName wsX0_makeName (rX0_makeName C N) (oPreX G h0 h σ sz [.int p1]) (oyi G h0 h r σr (oA G h0 h σ sz)) (oyX G h0 h r σr (oA G h0 h σ sz)) C N (oA G h0 h σ sz) := by
  refine oxMet (Qc := oyi G h0 h r σr) (XC := oyX G h0 h r σr) (by decide +kernel) rfl rfl (Nat.le_of_ble_eq_true rfl) ?_
  intro p e s m args below meth c A S hr hlocks hno hK hA hZ H locs hI ls hl
  have hl : lv_has ls 4 [(0, .ref h0), (1, .int p1)] := hl
  have hin : ∀ w ∈ wsX00, w ∈ wsX0_makeName := by decide +kernel
  have hx := S.1
  have hb := S.2.1
  have hts := S.2.2.2.2
  have hown := S.2.2.2.1
  have hC : 0 + C ≤ C := by omega
  have hN : 0 + N ≤ N := by omega
  unfold fX0_makeName at hg
  refine lv_aload_n hx hb dX0_makeName_0 rfl (lv_at hl 0 rfl) ?_
  refine lv_iload_n hx hb dX0_makeName_1 rfl (lv_at hl 1 rfl) ?_
  obtain ⟨r2, σ1, er2, hg⟩ := bnd_e hg
  refine oc_i S hK hA hI (As := [.int p1]) (rest := []) (kX0_lengthIn l G h0 h H.size F σ p1  r2 σ1 er2) (cwV 1 hts gX0_makeName_X0_lengthIn rfl rfl rfl nX0_lengthIn ⟨Nat.le_of_ble_eq_true rfl, Nat.le_of_ble_eq_true rfl⟩) rfl hl.1 rfl (Nat.le_of_ble_eq_true rfl) dX0_makeName_2 ⟨by show 0 + 0 ≤ C; omega, by show 0 + 0 ≤ N; omega⟩ (fun H locs hI => ?_)
  refine lv_istore_n (lv' := [(2, .int r2), (0, .ref h0), (1, .int p1)]) hx hb dX0_makeName_5 rfl hl (by decide) rfl (fun ls hl => ?_)
  refine lv_aload_n hx hb dX0_makeName_6 rfl (lv_at hl 1 rfl) ?_
  refine lv_iconst (v := 5) hx hb dX0_makeName_7 (by decide) ?_
  refine lv_iload_n hx hb dX0_makeName_8 rfl (lv_at hl 0 rfl) ?_
  rcases bndX_e hg with ⟨e3, hc3, er⟩ | ⟨a3, σ3, c3, n3, C3, N3, hc3, hg, eC, eN⟩
  · subst er
    exact oyt_iy S hK hA hZ hI hno hlocks (As := [.int 5, .int r2]) (rest := []) (kX0_makeFlat l htr G h0 h H.size F σ1 5 r2 _ _ _ _ hc3) (cwV 2 hts gX0_makeName_X0_makeFlat rfl rfl rfl nX0_makeFlat ⟨Nat.le_of_ble_eq_true rfl, Nat.le_of_ble_eq_true rfl⟩) rfl hl.1 rfl (Nat.le_of_ble_eq_true rfl) dX0_makeName_9 ⟨by show (0 + 0) + C ≤ C; omega, by show (0 + 0) + N ≤ N; omega⟩ rfl (by omega) (by omega)
  · refine oyc_i S hK hA hZ hI (As := [.int 5, .int r2]) (rest := []) (kX0_makeFlat l htr G h0 h H.size F σ1 5 r2 _ _ _ _ hc3) (cwV 2 hts gX0_makeName_X0_makeFlat rfl rfl rfl nX0_makeFlat ⟨Nat.le_of_ble_eq_true rfl, Nat.le_of_ble_eq_true rfl⟩) rfl hl.1 rfl (Nat.le_of_ble_eq_true rfl) dX0_makeName_9 ⟨by show (0 + 0) + c3 ≤ C; omega, by show (0 + 0) + n3 ≤ N; omega⟩ (fun hw3 hn3 H locs hI => ?_)
    have hC : ((0 + 0) + c3) + C3 ≤ C := by omega
    have hN : ((0 + 0) + n3) + N3 ≤ N := by omega
    refine lv_istore_n (lv' := [(3, .int a3), (2, .int r2), (0, .ref h0), (1, .int p1)]) hx hb dX0_makeName_12 rfl hl (by decide) rfl (fun ls hl => ?_)
    refine lv_aload_n hx hb dX0_makeName_13 rfl (lv_at hl 2 rfl) ?_
    refine lv_aload_n hx hb dX0_makeName_14 rfl (lv_at hl 2 rfl) ?_
    refine lv_aload_n hx hb dX0_makeName_15 rfl (lv_at hl 2 rfl) ?_
    refine og_roots S hin hK hI (ix := 30) (by decide +kernel) dX0_makeName_16 ?_
    refine lv_iload_n hx hb dX0_makeName_19 rfl (lv_at hl 3 rfl) ?_
    obtain ⟨c4, hg⟩ := ck_e hg
    obtain ⟨x5, ex5, hg⟩ := nmd_e hg
    refine or_roots S hK hI c4 ex5 dX0_makeName_20 ?_
    obtain ⟨r7, σ6, er7, hg⟩ := bnd_e hg
    refine oc_i S hK hA hI (As := [.int x5]) (rest := [.ref h0]) (kX0_flatOf l G h0 (hw3, h.2.1, hn3, h.2.2.2) H.size F σ3 x5  r7 σ6 er7) (cwV 1 hts gX0_makeName_X0_flatOf rfl rfl rfl nX0_flatOf ⟨Nat.le_of_ble_eq_true rfl, Nat.le_of_ble_eq_true rfl⟩) rfl hl.1 rfl (Nat.le_of_ble_eq_true rfl) dX0_makeName_21 ⟨by show ((0 + 0) + c3) + 0 ≤ C; omega, by show ((0 + 0) + n3) + 0 ≤ N; omega⟩ (fun H locs hI => ?_)
    refine lv_iconst (v := 0) hx hb dX0_makeName_24 (by decide) ?_
    refine lv_iload_n hx hb dX0_makeName_25 rfl (lv_at hl 1 rfl) ?_
    refine lv_iload_n hx hb dX0_makeName_26 rfl (lv_at hl 0 rfl) ?_
    refine lv_iconst (v := 0) hx hb dX0_makeName_27 (by decide) ?_
    obtain ⟨σ8, eσ8, hg⟩ := bnp_e hg
    refine oc_v S hK hA hI (As := [.int r7, .int 0, .int r2, .int a3, .int 0]) (rest := []) (kX0_copyUnits l G h0 (hw3, h.2.1, hn3, h.2.2.2) H.size F σ6 r7 0 r2 a3 0  σ8 eσ8) (cwV 5 hts gX0_makeName_X0_copyUnits rfl rfl rfl nX0_copyUnits ⟨Nat.le_of_ble_eq_true rfl, Nat.le_of_ble_eq_true rfl⟩) rfl hl.1 rfl (Nat.le_of_ble_eq_true rfl) dX0_makeName_28 ⟨by show (((0 + 0) + c3) + 0) + 0 ≤ C; omega, by show (((0 + 0) + n3) + 0) + 0 ≤ N; omega⟩ (fun H locs hI => ?_)
    refine lv_aload_n hx hb dX0_makeName_31 rfl (lv_at hl 2 rfl) ?_
    refine og_nameCount S hin hK hI (ix := 42) (by decide +kernel) dX0_makeName_32 ?_
    refine lv_aload_n hx hb dX0_makeName_35 rfl (lv_at hl 2 rfl) ?_
    refine og_names S hin hK hI (ix := 39) (by decide +kernel) dX0_makeName_36 ?_
    refine ol_names S hK hI dX0_makeName_39 ?_
    refine lv_icmp_ne (tgt := 60) hx hb dX0_makeName_40 (by decide) (fun c9 => ?_) (fun c9 => ?_)
    · have hg := cIf_fe c9 hg
      refine lv_aload_n hx hb dX0_makeName_60 rfl (lv_at hl 2 rfl) ?_
      refine og_names S hin hK hI (ix := 39) (by decide +kernel) dX0_makeName_61 ?_
      refine lv_aload_n hx hb dX0_makeName_64 rfl (lv_at hl 2 rfl) ?_
      refine og_nameCount S hin hK hI (ix := 42) (by decide +kernel) dX0_makeName_65 ?_
      refine lv_iload_n hx hb dX0_makeName_68 rfl (lv_at hl 0 rfl) ?_
      obtain ⟨c10, hg⟩ := ck_e hg
      obtain ⟨σ11, eσ11, hg⟩ := nmd_e hg
      refine ou_names S hK hI c10 eσ11 dX0_makeName_69 (fun H locs hI => ?_)
      refine lv_aload_n hx hb dX0_makeName_70 rfl (lv_at hl 2 rfl) ?_
      refine lv_dup hx hb dX0_makeName_71 rfl ?_
      refine og_nameCount S hin hK hI (ix := 42) (by decide +kernel) dX0_makeName_72 ?_
      refine lv_iconst (v := 1) hx hb dX0_makeName_75 (by decide) ?_
      refine lv_iadd hx hb dX0_makeName_76 ?_
      obtain ⟨σ12, eσ12, hg⟩ := nmd_e hg
      refine op_nameCount S hin hK hI (ix := 42) (by decide +kernel) eσ12 dX0_makeName_77 (fun H locs hI => ?_)
      refine lv_iload_n hx hb dX0_makeName_80 rfl (lv_at hl 0 rfl) ?_
      exact oye_i S hr hlocks hK hI rfl hg (by omega) (by omega) dX0_makeName_81
    · have hg := cIf_te c9 hg
      refine lv_aload_n hx hb dX0_makeName_43 rfl (lv_at hl 2 rfl) ?_
      refine lv_aload_n hx hb dX0_makeName_44 rfl (lv_at hl 2 rfl) ?_
      refine og_names S hin hK hI (ix := 39) (by decide +kernel) dX0_makeName_45 ?_
      refine lv_iconst (v := 2) hx hb dX0_makeName_48 (by decide) ?_
      refine lv_aload_n hx hb dX0_makeName_49 rfl (lv_at hl 2 rfl) ?_
      refine og_nameCount S hin hK hI (ix := 42) (by decide +kernel) dX0_makeName_50 ?_
      refine lv_imul hx hb dX0_makeName_53 ?_
      obtain ⟨C15, N15, hg, eC, eN⟩ := addC_e hg
      obtain ⟨c13, hg⟩ := ck_e hg
      obtain ⟨σ14, eσ14, hg⟩ := nmd_e hg
      refine ox_growN S hin hK hA hI (ix := 39) c13 eσ14 gX0_makeName_J7_copyOf_59c91 (by decide +kernel) hl.1 ⟨Nat.le_of_ble_eq_true rfl, Nat.le_of_ble_eq_true rfl⟩ ⟨by show ((((0 + 0) + c3) + 0) + 0) + 1 ≤ C; omega, by show ((((0 + 0) + n3) + 0) + 0) + (2 * (o_nc σ8)).toNatClampNeg ≤ N; omega⟩ (Nat.le_of_ble_eq_true rfl) dX0_makeName_54 dX0_makeName_57 (fun q15 H locs hI => ?_)
      have hC : (((((0 + 0) + c3) + 0) + 0) + 1) + C15 ≤ C := by omega
      have hN : (((((0 + 0) + n3) + 0) + 0) + (2 * (o_nc σ8)).toNatClampNeg) + N15 ≤ N := by omega
      refine lv_aload_n hx hb dX0_makeName_60 rfl (lv_at hl 2 rfl) ?_
      refine og_names S hin hK hI (ix := 39) (by decide +kernel) dX0_makeName_61 ?_
      refine lv_aload_n hx hb dX0_makeName_64 rfl (lv_at hl 2 rfl) ?_
      refine og_nameCount S hin hK hI (ix := 42) (by decide +kernel) dX0_makeName_65 ?_
      refine lv_iload_n hx hb dX0_makeName_68 rfl (lv_at hl 0 rfl) ?_
      obtain ⟨c16, hg⟩ := ck_e hg
      obtain ⟨σ17, eσ17, hg⟩ := nmd_e hg
      refine ou_names S hK hI c16 eσ17 dX0_makeName_69 (fun H locs hI => ?_)
      refine lv_aload_n hx hb dX0_makeName_70 rfl (lv_at hl 2 rfl) ?_
      refine lv_dup hx hb dX0_makeName_71 rfl ?_
      refine og_nameCount S hin hK hI (ix := 42) (by decide +kernel) dX0_makeName_72 ?_
      refine lv_iconst (v := 1) hx hb dX0_makeName_75 (by decide) ?_
      refine lv_iadd hx hb dX0_makeName_76 ?_
      obtain ⟨σ18, eσ18, hg⟩ := nmd_e hg
      refine op_nameCount S hin hK hI (ix := 42) (by decide +kernel) eσ18 dX0_makeName_77 (fun H locs hI => ?_)
      refine lv_iload_n hx hb dX0_makeName_80 rfl (lv_at hl 0 rfl) ?_
      exact oye_i S hr hlocks hK hI rfl hg (by omega) (by omega) dX0_makeName_81
-- OwnMemory.take (may throw)
abbrev rX0_take (C N : Nat) : Room := { frames := 7, cells := C, slots := N, locals := 117 }
theorem nX0_take : yX0_take.cls = RX0 ∧ yX0_take.cls ≠ "java/lang/invoke/MethodHandle" ∧ yX0_take.cls ≠ "java/lang/invoke/VarHandle" ∧ (parseMethodDescriptor yX0_take.desc).map (fun d => d.parameters.length) = some 4 := by decide +kernel
noncomputable def fX0_take (F : Nat) (σ : oS) (p1 : Int32) (p2 : Int32) (p3 : Int32) (p4 : Int32) : xT Unit := bndN (fX0_needRoot F p1) σ (bnp (fX0_isUpTo F p2 8) (fun r3 => cIf (r3 = 0) (some (.inl 1, σ, 1, 6)) (bnp (fX0_isUpTo F p3 8) (fun r5 => cIf (r5 = 0) (some (.inl 1, σ, 1, 6)) (bnp (fX0_isUpTo F p4 16) (fun r7 => cIf (r7 = 0) (some (.inl 1, σ, 1, 6)) (bndX (fX0_make F σ 1 p2 p3 p4) (fun a9 σ9 => ck (vp_in p1 24) (nmd (o_s_fr σ9 (upd (o_fr σ9) p1.toNatClampNeg a9)) (fun σ11 => some (.inr (), σ11, 0, 0)))))))))))
set_option maxHeartbeats 4000000 in
set_option maxRecDepth 100000 in
theorem kX0_take (l : Launch) (htr : l.stackTraces = false) (G : gT) (h0 : Nat) (h : oH) (sz F : Nat) (σ : oS) (p1 : Int32) (p2 : Int32) (p3 : Int32) (p4 : Int32) (r : Int32 ⊕ Unit) (σr : oS) (C N : Nat) (hg : fX0_take F σ p1 p2 p3 p4 = some (r, σr, C, N)) : vx_Met l yX0_take wsX0_take (rX0_take C N) (oPreX G h0 h σ sz [.int p1, .int p2, .int p3, .int p4]) (oyv G h0 h r σr (oA G h0 h σ sz)) (oyX G h0 h r σr (oA G h0 h σ sz)) C N (oA G h0 h σ sz) := by
  refine oxMet (Qc := oyv G h0 h r σr) (XC := oyX G h0 h r σr) (by decide +kernel) rfl rfl (Nat.le_of_ble_eq_true rfl) ?_
  intro p e s m args below meth c A S hr hlocks hno hK hA hZ H locs hI ls hl
  have hl : lv_has ls 5 [(0, .ref h0), (1, .int p1), (2, .int p2), (3, .int p3), (4, .int p4)] := hl
  have hin : ∀ w ∈ wsX00, w ∈ wsX0_take := by decide +kernel
  have hx := S.1
  have hb := S.2.1
  have hts := S.2.2.2.2
  have hown := S.2.2.2.1
  have hC : 0 + C ≤ C := by omega
  have hN : 0 + N ≤ N := by omega
  unfold fX0_take at hg
  refine lv_iload_n hx hb dX0_take_0 rfl (lv_at hl 1 rfl) ?_
  rcases bndN_e hg with ⟨e1, hc2, er, eσ, eC, eN⟩ | ⟨hc2, hg⟩
  · subst er; subst eσ
    exact ont_y (mc := 1) (ms := 6) S hK hA hZ hI hno hlocks (As := [.int p1]) (rest := []) (kX0_needRoot l htr H.size F p1 (.inl e1) hc2) (va_cwS 1 hts gX0_take_X0_needRoot rfl rfl rfl nX0_needRoot ⟨Nat.le_of_ble_eq_true rfl, Nat.le_of_ble_eq_true rfl⟩) rfl hl.1 rfl (Nat.le_of_ble_eq_true rfl) dX0_take_1 ⟨by show 0 + 1 ≤ C; omega, by show 0 + 6 ≤ N; omega⟩ rfl (by show 0 + 1 ≤ C; omega) (by show 0 + 6 ≤ N; omega)
  · refine onv (mc := 0) (ms := 0) S hA hZ hI (As := [.int p1]) (rest := []) (kX0_needRoot l htr H.size F p1 (.inr ()) hc2) (va_cwS 1 hts gX0_take_X0_needRoot rfl rfl rfl nX0_needRoot ⟨Nat.le_of_ble_eq_true rfl, Nat.le_of_ble_eq_true rfl⟩) rfl hl.1 rfl (Nat.le_of_ble_eq_true rfl) dX0_take_1 ⟨by show 0 + 0 ≤ C; omega, by show 0 + 0 ≤ N; omega⟩ (fun H locs hI => ?_)
    refine lv_iload_n hx hb dX0_take_4 rfl (lv_at hl 2 rfl) ?_
    refine lv_bipush (v := 8) hx hb dX0_take_5 (by decide) ?_
    obtain ⟨r3, er3, hg⟩ := bnp_e hg
    refine os_i S hA hI (As := [.int p2, .int 8]) (rest := []) (kX0_isUpTo l H.size F p2 8 r3 er3) (va_cwS 2 hts gX0_take_X0_isUpTo rfl rfl rfl nX0_isUpTo ⟨Nat.le_of_ble_eq_true rfl, Nat.le_of_ble_eq_true rfl⟩) rfl hl.1 rfl (Nat.le_of_ble_eq_true rfl) dX0_take_7 ⟨by show (0 + 0) + 0 ≤ C; omega, by show (0 + 0) + 0 ≤ N; omega⟩ (fun H locs hI => ?_)
    refine lv_if_eq (tgt := 32) hx hb dX0_take_10 (by decide) (fun c4 => ?_) (fun c4 => ?_)
    · have hg := cIf_te c4 hg
      obtain ⟨e1, e2, e3, e4⟩ := x4_e hg
      subst e1; subst e2
      exact oth1_y S hK hZ hI rfl hno hlocks htr (is := 67) (tx := "no such block") (by decide +kernel) (by decide +kernel) (by decide +kernel) (by decide +kernel) hl.1 dX0_take_32 dX0_take_35 dX0_take_36 dX0_take_38 dX0_take_41 (Nat.le_of_ble_eq_true rfl) (Nat.le_of_ble_eq_true rfl) (by show ((0 + 0) + 0) + 1 ≤ C; omega) (by show ((0 + 0) + 0) + 6 ≤ N; omega) (by omega) (by omega)
    · have hg := cIf_fe c4 hg
      refine lv_iload_n hx hb dX0_take_13 rfl (lv_at hl 3 rfl) ?_
      refine lv_bipush (v := 8) hx hb dX0_take_14 (by decide) ?_
      obtain ⟨r5, er5, hg⟩ := bnp_e hg
      refine os_i S hA hI (As := [.int p3, .int 8]) (rest := []) (kX0_isUpTo l H.size F p3 8 r5 er5) (va_cwS 2 hts gX0_take_X0_isUpTo rfl rfl rfl nX0_isUpTo ⟨Nat.le_of_ble_eq_true rfl, Nat.le_of_ble_eq_true rfl⟩) rfl hl.1 rfl (Nat.le_of_ble_eq_true rfl) dX0_take_16 ⟨by show ((0 + 0) + 0) + 0 ≤ C; omega, by show ((0 + 0) + 0) + 0 ≤ N; omega⟩ (fun H locs hI => ?_)
      refine lv_if_eq (tgt := 32) hx hb dX0_take_19 (by decide) (fun c6 => ?_) (fun c6 => ?_)
      · have hg := cIf_te c6 hg
        obtain ⟨e1, e2, e3, e4⟩ := x4_e hg
        subst e1; subst e2
        exact oth1_y S hK hZ hI rfl hno hlocks htr (is := 67) (tx := "no such block") (by decide +kernel) (by decide +kernel) (by decide +kernel) (by decide +kernel) hl.1 dX0_take_32 dX0_take_35 dX0_take_36 dX0_take_38 dX0_take_41 (Nat.le_of_ble_eq_true rfl) (Nat.le_of_ble_eq_true rfl) (by show (((0 + 0) + 0) + 0) + 1 ≤ C; omega) (by show (((0 + 0) + 0) + 0) + 6 ≤ N; omega) (by omega) (by omega)
      · have hg := cIf_fe c6 hg
        refine lv_iload hx hb dX0_take_22 (lv_at hl 4 rfl) ?_
        refine lv_bipush (v := 16) hx hb dX0_take_24 (by decide) ?_
        obtain ⟨r7, er7, hg⟩ := bnp_e hg
        refine os_i S hA hI (As := [.int p4, .int 16]) (rest := []) (kX0_isUpTo l H.size F p4 16 r7 er7) (va_cwS 2 hts gX0_take_X0_isUpTo rfl rfl rfl nX0_isUpTo ⟨Nat.le_of_ble_eq_true rfl, Nat.le_of_ble_eq_true rfl⟩) rfl hl.1 rfl (Nat.le_of_ble_eq_true rfl) dX0_take_26 ⟨by show (((0 + 0) + 0) + 0) + 0 ≤ C; omega, by show (((0 + 0) + 0) + 0) + 0 ≤ N; omega⟩ (fun H locs hI => ?_)
        refine lv_if_ne (tgt := 42) hx hb dX0_take_29 (by decide) (fun c8 => ?_) (fun c8 => ?_)
        · have hg := cIf_fe c8 hg
          refine lv_aload_n hx hb dX0_take_42 rfl (lv_at hl 0 rfl) ?_
          refine og_roots S hin hK hI (ix := 30) (by decide +kernel) dX0_take_43 ?_
          refine lv_iload_n hx hb dX0_take_46 rfl (lv_at hl 1 rfl) ?_
          refine lv_aload_n hx hb dX0_take_47 rfl (lv_at hl 0 rfl) ?_
          refine lv_iconst (v := 1) hx hb dX0_take_48 (by decide) ?_
          refine lv_iload_n hx hb dX0_take_49 rfl (lv_at hl 2 rfl) ?_
          refine lv_iload_n hx hb dX0_take_50 rfl (lv_at hl 3 rfl) ?_
          refine lv_iload hx hb dX0_take_51 (lv_at hl 4 rfl) ?_
          rcases bndX_e hg with ⟨e9, hc9, er⟩ | ⟨a9, σ9, c9, n9, C9, N9, hc9, hg, eC, eN⟩
          · subst er
            exact oyt_iy S hK hA hZ hI hno hlocks (As := [.int 1, .int p2, .int p3, .int p4]) (rest := [.int p1, .ref h.2.1]) (kX0_make l htr G h0 h H.size F σ 1 p2 p3 p4 _ _ _ _ hc9) (cwV 4 hts gX0_take_X0_make rfl rfl rfl nX0_make ⟨Nat.le_of_ble_eq_true rfl, Nat.le_of_ble_eq_true rfl⟩) rfl hl.1 rfl (Nat.le_of_ble_eq_true rfl) dX0_take_53 ⟨by show ((((0 + 0) + 0) + 0) + 0) + C ≤ C; omega, by show ((((0 + 0) + 0) + 0) + 0) + N ≤ N; omega⟩ rfl (by omega) (by omega)
          · refine oyc_i S hK hA hZ hI (As := [.int 1, .int p2, .int p3, .int p4]) (rest := [.int p1, .ref h.2.1]) (kX0_make l htr G h0 h H.size F σ 1 p2 p3 p4 _ _ _ _ hc9) (cwV 4 hts gX0_take_X0_make rfl rfl rfl nX0_make ⟨Nat.le_of_ble_eq_true rfl, Nat.le_of_ble_eq_true rfl⟩) rfl hl.1 rfl (Nat.le_of_ble_eq_true rfl) dX0_take_53 ⟨by show ((((0 + 0) + 0) + 0) + 0) + c9 ≤ C; omega, by show ((((0 + 0) + 0) + 0) + 0) + n9 ≤ N; omega⟩ (fun hw9 hn9 H locs hI => ?_)
            have hC : (((((0 + 0) + 0) + 0) + 0) + c9) + C9 ≤ C := by omega
            have hN : (((((0 + 0) + 0) + 0) + 0) + n9) + N9 ≤ N := by omega
            obtain ⟨c10, hg⟩ := ck_e hg
            obtain ⟨σ11, eσ11, hg⟩ := nmd_e hg
            refine ou_roots S hK hI c10 eσ11 dX0_take_56 (fun H locs hI => ?_)
            exact oye_v S hr hlocks hK hI rfl hg (by omega) (by omega) dX0_take_57
        · have hg := cIf_te c8 hg
          obtain ⟨e1, e2, e3, e4⟩ := x4_e hg
          subst e1; subst e2
          exact oth1_y S hK hZ hI rfl hno hlocks htr (is := 67) (tx := "no such block") (by decide +kernel) (by decide +kernel) (by decide +kernel) (by decide +kernel) hl.1 dX0_take_32 dX0_take_35 dX0_take_36 dX0_take_38 dX0_take_41 (Nat.le_of_ble_eq_true rfl) (Nat.le_of_ble_eq_true rfl) (by show ((((0 + 0) + 0) + 0) + 0) + 1 ≤ C; omega) (by show ((((0 + 0) + 0) + 0) + 0) + 6 ≤ N; omega) (by omega) (by omega)
-- OwnMemory.text (may throw)
abbrev rX0_text (C N : Nat) : Room := { frames := 8, cells := C, slots := N, locals := 140 }
theorem nX0_text : yX0_text.cls = RX0 ∧ yX0_text.cls ≠ "java/lang/invoke/MethodHandle" ∧ yX0_text.cls ≠ "java/lang/invoke/VarHandle" ∧ (parseMethodDescriptor yX0_text.desc).map (fun d => d.parameters.length) = some 3 := by decide +kernel
noncomputable def LX0_text_35 (F : Nat) (K : Int32 → oS → Option ((Int32 ⊕ Unit) × oS × Nat × Nat)) (v1 : Int32) (v2 : Int64) (v4 : Int32) (v5 : Int32) : Nat → Int32 → oS → Option ((Int32 ⊕ Unit) × oS × Nat × Nat)
  | 0, _, _ => none
  | n + 1, v6, σ => cIf (v4 ≤ v6) (K v6 σ) (nmd ((v4 - 1) - v6) (fun x7 => bnp (fX0_putUnit F σ v5 v6 (((v2.toUInt64 >>> ((16 * x7).toInt64.toUInt64 &&& Int64.toUInt64 63)).toInt64).toInt32 &&& 65535)) (fun σ8 => nmd (v6 + 1) (fun x9 => LX0_text_35 F K v1 v2 v4 v5 n x9 σ8))))
noncomputable def fX0_text (F : Nat) (σ : oS) (p1 : Int32) (p2 : Int64) (p3 : Int32) : xT Unit := bndN (fX0_needRoot F p1) σ (bnp (fX0_isUpTo F p3 4) (fun r3 => cIf (r3 = 0) (some (.inl 1, σ, 1, 6)) (bndX (fX0_makeFlat F σ 2 p3) (fun a5 σ5 => LX0_text_35 F (fun w10 σ11 => ck (vp_in p1 24) (nmd (o_s_fr σ11 (upd (o_fr σ11) p1.toNatClampNeg a5)) (fun σ13 => some (.inr (), σ13, 0, 0)))) p1 p2 p3 a5 F 0 σ5))))
set_option maxHeartbeats 4000000 in
set_option maxRecDepth 100000 in
theorem lX0_text_35 {p : Program} {l : Launch} {e : Env} {s : State} {m : MethodId} {args : Array Value} {below : List Frame} {meth : Method} {c : Code} {A : Nat → Prop} {G : gT} {h0 : Nat} {h : oH} {F : Nat} {C N Cr Nr cells slots : Nat} {r : Int32 ⊕ Unit} {σr : oS} {hw hn : Nat} (S : CallFix p m c cX0_text 8 s args wsX0_text RX0) (hr : meth.sig.returnType = none) (hlocks : meth.locks = false) (hin : ∀ w ∈ wsX00, w ∈ wsX0_text) (hK : gK G s) (hA : ∀ q, s.heap.size ≤ q → A q) (htr : l.stackTraces = false) (hno : ∀ x ∈ c.exceptionTable.toList, False) (hZ : xZ A s s.heap) (hC : cells + Cr ≤ C) (hN : slots + Nr ≤ N) {K : Int32 → oS → Option ((Int32 ⊕ Unit) × oS × Nat × Nat)} (v1 : Int32) (v2 : Int64) (v4 : Int32) (v5 : Int32) (n : Nat) : ∀ (v6 : Int32) (σ : oS) (H : Heap) (locs : List Loc) (ls : Array Slot), LX0_text_35 F K v1 v2 v4 v5 n v6 σ = some (r, σr, Cr, Nr) → oI s A G h0 (hw, h.2.1, hn, h.2.2.2) σ H locs → lv_has ls 8 [(0, .ref h0), (1, .int v1), (2, .long v2), (4, .int v4), (5, .int v5), (6, .int v6)] → (∀ (v6 : Int32) (σ : oS) (H : Heap) (locs : List Loc) (ls : Array Slot), K v6 σ = some (r, σr, Cr, Nr) → oI s A G h0 (hw, h.2.1, hn, h.2.2.2) σ H locs → lv_has ls 8 [(0, .ref h0), (1, .int v1), (2, .long v2), (4, .int v4), (5, .int v5), (6, .int v6)] → W p l e (rX0_text C N) s m args below meth c H locs cells slots (vx_MQ below (oyv G h0 h r σr A) (oyX G h0 h r σr A) args s C N A) (F0 m 76 ls [])) → W p l e (rX0_text C N) s m args below meth c H locs cells slots (vx_MQ below (oyv G h0 h r σr A) (oyX G h0 h r σr A) args s C N A) (F0 m 35 ls []) := by
  have hx := S.1
  have hb := S.2.1
  have hts := S.2.2.2.2
  have hown := S.2.2.2.1
  induction n with
  | zero => intro v6 σ H locs ls hg; rw [LX0_text_35] at hg; cases hg
  | succ n ih =>
    intro v6 σ H locs ls hg hI hl kk
    rw [LX0_text_35] at hg
    refine lv_iload hx hb dX0_text_35 (lv_at hl 5 rfl) ?_
    refine lv_iload hx hb dX0_text_37 (lv_at hl 3 rfl) ?_
    refine lv_icmp_ge (tgt := 76) hx hb dX0_text_39 (by decide) (fun c6 => ?_) (fun c6 => ?_)
    · have hg := cIf_te c6 hg
      exact kk v6 σ H locs ls hg hI (lv_sub hl [0, 1, 2, 3, 4, 5] rfl)
    · have hg := cIf_fe c6 hg
      refine lv_iload hx hb dX0_text_42 (lv_at hl 3 rfl) ?_
      refine lv_iconst (v := 1) hx hb dX0_text_44 (by decide) ?_
      refine lv_isub hx hb dX0_text_45 ?_
      refine lv_iload hx hb dX0_text_46 (lv_at hl 5 rfl) ?_
      refine lv_isub hx hb dX0_text_48 ?_
      obtain ⟨x7, ex7, hg⟩ := nmd_e hg
      refine wn_i ex7 ?_
      refine lv_istore (lv' := [(7, .int x7), (0, .ref h0), (1, .int v1), (2, .long v2), (4, .int v4), (5, .int v5), (6, .int v6)]) hx hb dX0_text_49 hl (by decide) rfl (fun ls hl => ?_)
      refine lv_aload_n hx hb dX0_text_51 rfl (lv_at hl 1 rfl) ?_
      refine lv_iload hx hb dX0_text_52 (lv_at hl 5 rfl) ?_
      refine lv_iload hx hb dX0_text_54 (lv_at hl 6 rfl) ?_
      refine lv_lload_n hx hb dX0_text_56 rfl (lv_at hl 3 rfl) ?_
      refine lv_bipush (v := 16) hx hb dX0_text_57 (by decide) ?_
      refine lv_iload hx hb dX0_text_59 (lv_at hl 0 rfl) ?_
      refine lv_imul hx hb dX0_text_61 ?_
      refine lv_lushr (v := (v2.toUInt64 >>> ((16 * x7).toInt64.toUInt64 &&& Int64.toUInt64 63)).toInt64) hx hb dX0_text_62 rfl ?_
      refine lv_l2i (v := ((v2.toUInt64 >>> ((16 * x7).toInt64.toUInt64 &&& Int64.toUInt64 63)).toInt64).toInt32) hx hb dX0_text_63 rfl ?_
      refine lv_ldc (v := 65535) hx hb hown (hts (.constant RX0 107 (65535)) (by decide +kernel)) dX0_text_64 ?_
      refine lv_iand hx hb dX0_text_66 ?_
      obtain ⟨σ8, eσ8, hg⟩ := bnp_e hg
      refine oc_v S hK hA hI (As := [.int v5, .int v6, .int (((v2.toUInt64 >>> ((16 * x7).toInt64.toUInt64 &&& Int64.toUInt64 63)).toInt64).toInt32 &&& 65535)]) (rest := []) (kX0_putUnit l G h0 (hw, h.2.1, hn, h.2.2.2) H.size F σ v5 v6 (((v2.toUInt64 >>> ((16 * x7).toInt64.toUInt64 &&& Int64.toUInt64 63)).toInt64).toInt32 &&& 65535)  σ8 eσ8) (cwV 3 hts gX0_text_X0_putUnit rfl rfl rfl nX0_putUnit ⟨Nat.le_of_ble_eq_true rfl, Nat.le_of_ble_eq_true rfl⟩) rfl hl.1 rfl (Nat.le_of_ble_eq_true rfl) dX0_text_67 ⟨by show cells + 0 ≤ C; omega, by show slots + 0 ≤ N; omega⟩ (fun H locs hI => ?_)
      obtain ⟨x9, ex9, hg⟩ := nmd_e hg
      refine lv_iinc (v := x9) (lv' := [(6, .int x9), (7, .int x7), (0, .ref h0), (1, .int v1), (2, .long v2), (4, .int v4), (5, .int v5)]) hx hb dX0_text_70 hl (k := 6) rfl (by rw [ex9]; rfl) (by decide) rfl (fun ls hl => ?_)
      refine lv_goto (tgt := 35) hx hb dX0_text_73 (by decide) ?_
      exact ih x9 σ8 H locs ls hg hI (lv_sub hl [2, 3, 4, 5, 6, 0] rfl) kk
set_option maxHeartbeats 4000000 in
set_option maxRecDepth 100000 in
theorem kX0_text (l : Launch) (htr : l.stackTraces = false) (G : gT) (h0 : Nat) (h : oH) (sz F : Nat) (σ : oS) (p1 : Int32) (p2 : Int64) (p3 : Int32) (r : Int32 ⊕ Unit) (σr : oS) (C N : Nat) (hg : fX0_text F σ p1 p2 p3 = some (r, σr, C, N)) : vx_Met l yX0_text wsX0_text (rX0_text C N) (oPreX G h0 h σ sz [.int p1, .long p2, .int p3]) (oyv G h0 h r σr (oA G h0 h σ sz)) (oyX G h0 h r σr (oA G h0 h σ sz)) C N (oA G h0 h σ sz) := by
  refine oxMet (Qc := oyv G h0 h r σr) (XC := oyX G h0 h r σr) (by decide +kernel) rfl rfl (Nat.le_of_ble_eq_true rfl) ?_
  intro p e s m args below meth c A S hr hlocks hno hK hA hZ H locs hI ls hl
  have hl : lv_has ls 8 [(0, .ref h0), (1, .int p1), (2, .long p2), (4, .int p3)] := hl
  have hin : ∀ w ∈ wsX00, w ∈ wsX0_text := by decide +kernel
  have hx := S.1
  have hb := S.2.1
  have hts := S.2.2.2.2
  have hown := S.2.2.2.1
  have hC : 0 + C ≤ C := by omega
  have hN : 0 + N ≤ N := by omega
  unfold fX0_text at hg
  refine lv_iload_n hx hb dX0_text_0 rfl (lv_at hl 1 rfl) ?_
  rcases bndN_e hg with ⟨e1, hc2, er, eσ, eC, eN⟩ | ⟨hc2, hg⟩
  · subst er; subst eσ
    exact ont_y (mc := 1) (ms := 6) S hK hA hZ hI hno hlocks (As := [.int p1]) (rest := []) (kX0_needRoot l htr H.size F p1 (.inl e1) hc2) (va_cwS 1 hts gX0_text_X0_needRoot rfl rfl rfl nX0_needRoot ⟨Nat.le_of_ble_eq_true rfl, Nat.le_of_ble_eq_true rfl⟩) rfl hl.1 rfl (Nat.le_of_ble_eq_true rfl) dX0_text_1 ⟨by show 0 + 1 ≤ C; omega, by show 0 + 6 ≤ N; omega⟩ rfl (by show 0 + 1 ≤ C; omega) (by show 0 + 6 ≤ N; omega)
  · refine onv (mc := 0) (ms := 0) S hA hZ hI (As := [.int p1]) (rest := []) (kX0_needRoot l htr H.size F p1 (.inr ()) hc2) (va_cwS 1 hts gX0_text_X0_needRoot rfl rfl rfl nX0_needRoot ⟨Nat.le_of_ble_eq_true rfl, Nat.le_of_ble_eq_true rfl⟩) rfl hl.1 rfl (Nat.le_of_ble_eq_true rfl) dX0_text_1 ⟨by show 0 + 0 ≤ C; omega, by show 0 + 0 ≤ N; omega⟩ (fun H locs hI => ?_)
    refine lv_iload hx hb dX0_text_4 (lv_at hl 3 rfl) ?_
    refine lv_iconst (v := 4) hx hb dX0_text_6 (by decide) ?_
    obtain ⟨r3, er3, hg⟩ := bnp_e hg
    refine os_i S hA hI (As := [.int p3, .int 4]) (rest := []) (kX0_isUpTo l H.size F p3 4 r3 er3) (va_cwS 2 hts gX0_text_X0_isUpTo rfl rfl rfl nX0_isUpTo ⟨Nat.le_of_ble_eq_true rfl, Nat.le_of_ble_eq_true rfl⟩) rfl hl.1 rfl (Nat.le_of_ble_eq_true rfl) dX0_text_7 ⟨by show (0 + 0) + 0 ≤ C; omega, by show (0 + 0) + 0 ≤ N; omega⟩ (fun H locs hI => ?_)
    refine lv_if_ne (tgt := 23) hx hb dX0_text_10 (by decide) (fun c4 => ?_) (fun c4 => ?_)
    · have hg := cIf_fe c4 hg
      refine lv_aload_n hx hb dX0_text_23 rfl (lv_at hl 0 rfl) ?_
      refine lv_iconst (v := 2) hx hb dX0_text_24 (by decide) ?_
      refine lv_iload hx hb dX0_text_25 (lv_at hl 3 rfl) ?_
      rcases bndX_e hg with ⟨e5, hc5, er⟩ | ⟨a5, σ5, c5, n5, C5, N5, hc5, hg, eC, eN⟩
      · subst er
        exact oyt_iy S hK hA hZ hI hno hlocks (As := [.int 2, .int p3]) (rest := []) (kX0_makeFlat l htr G h0 h H.size F σ 2 p3 _ _ _ _ hc5) (cwV 2 hts gX0_text_X0_makeFlat rfl rfl rfl nX0_makeFlat ⟨Nat.le_of_ble_eq_true rfl, Nat.le_of_ble_eq_true rfl⟩) rfl hl.1 rfl (Nat.le_of_ble_eq_true rfl) dX0_text_27 ⟨by show ((0 + 0) + 0) + C ≤ C; omega, by show ((0 + 0) + 0) + N ≤ N; omega⟩ rfl (by omega) (by omega)
      · refine oyc_i S hK hA hZ hI (As := [.int 2, .int p3]) (rest := []) (kX0_makeFlat l htr G h0 h H.size F σ 2 p3 _ _ _ _ hc5) (cwV 2 hts gX0_text_X0_makeFlat rfl rfl rfl nX0_makeFlat ⟨Nat.le_of_ble_eq_true rfl, Nat.le_of_ble_eq_true rfl⟩) rfl hl.1 rfl (Nat.le_of_ble_eq_true rfl) dX0_text_27 ⟨by show ((0 + 0) + 0) + c5 ≤ C; omega, by show ((0 + 0) + 0) + n5 ≤ N; omega⟩ (fun hw5 hn5 H locs hI => ?_)
        have hC : (((0 + 0) + 0) + c5) + C5 ≤ C := by omega
        have hN : (((0 + 0) + 0) + n5) + N5 ≤ N := by omega
        refine lv_istore (lv' := [(5, .int a5), (0, .ref h0), (1, .int p1), (2, .long p2), (4, .int p3)]) hx hb dX0_text_30 hl (by decide) rfl (fun ls hl => ?_)
        refine lv_iconst (v := 0) hx hb dX0_text_32 (by decide) ?_
        refine lv_istore (lv' := [(6, .int 0), (5, .int a5), (0, .ref h0), (1, .int p1), (2, .long p2), (4, .int p3)]) hx hb dX0_text_33 hl (by decide) rfl (fun ls hl => ?_)
        refine lX0_text_35 S hr hlocks hin hK hA htr hno hZ (by omega) (by omega) p1 p2 p3 a5 F 0 σ5 H locs ls hg hI (lv_sub hl [2, 3, 4, 5, 1, 0] rfl) (fun w10 σ11 H locs ls hg hI hl => ?_)
        refine lv_aload_n hx hb dX0_text_76 rfl (lv_at hl 0 rfl) ?_
        refine og_roots S hin hK hI (ix := 30) (by decide +kernel) dX0_text_77 ?_
        refine lv_iload_n hx hb dX0_text_80 rfl (lv_at hl 1 rfl) ?_
        refine lv_iload hx hb dX0_text_81 (lv_at hl 4 rfl) ?_
        obtain ⟨c12, hg⟩ := ck_e hg
        obtain ⟨σ13, eσ13, hg⟩ := nmd_e hg
        refine ou_roots S hK hI c12 eσ13 dX0_text_83 (fun H locs hI => ?_)
        exact oye_v S hr hlocks hK hI rfl hg (by omega) (by omega) dX0_text_84
    · have hg := cIf_te c4 hg
      obtain ⟨e1, e2, e3, e4⟩ := x4_e hg
      subst e1; subst e2
      exact oth1_y S hK hZ hI rfl hno hlocks htr (is := 102) (tx := "no such number of units") (by decide +kernel) (by decide +kernel) (by decide +kernel) (by decide +kernel) hl.1 dX0_text_13 dX0_text_16 dX0_text_17 dX0_text_19 dX0_text_22 (Nat.le_of_ble_eq_true rfl) (Nat.le_of_ble_eq_true rfl) (by show ((0 + 0) + 0) + 1 ≤ C; omega) (by show ((0 + 0) + 0) + 6 ≤ N; omega) (by omega) (by omega)
-- OwnMemory.join (may throw)
abbrev rX0_join (C N : Nat) : Room := { frames := 9, cells := C, slots := N, locals := 165 }
theorem nX0_join : yX0_join.cls = RX0 ∧ yX0_join.cls ≠ "java/lang/invoke/MethodHandle" ∧ yX0_join.cls ≠ "java/lang/invoke/VarHandle" ∧ (parseMethodDescriptor yX0_join.desc).map (fun d => d.parameters.length) = some 3 := by decide +kernel
noncomputable def fX0_join (F : Nat) (σ : oS) (p1 : Int32) (p2 : Int32) (p3 : Int32) : xT Unit := bndN (fX0_needRoot F p1) σ (bndX (fX0_needText F σ p2) (fun a3 σ3 => bndX (fX0_needText F σ3 p3) (fun a4 σ4 => bnd (fX0_lengthIn F σ4 p2) (fun r6 σ5 => bnd (fX0_lengthIn F σ5 p3) (fun r8 σ7 => cIf ((r6 + r8) ≤ 4000) (cIf (r6 = 0) (ck (vp_in p3 24) (nmd (o_fr σ7 p3.toNatClampNeg) (fun x24 => ck (vp_in p1 24) (nmd (o_s_fr σ7 (upd (o_fr σ7) p1.toNatClampNeg x24)) (fun σ26 => some (.inr (), σ26, 0, 0)))))) (cIf (r8 = 0) (ck (vp_in p2 24) (nmd (o_fr σ7 p2.toNatClampNeg) (fun x20 => ck (vp_in p1 24) (nmd (o_s_fr σ7 (upd (o_fr σ7) p1.toNatClampNeg x20)) (fun σ22 => some (.inr (), σ22, 0, 0)))))) (cIf (24 < (r6 + r8)) (bndX (fX0_makeJoined F σ7 p2 p3) (fun a13 σ13 => ck (vp_in p1 24) (nmd (o_s_fr σ13 (upd (o_fr σ13) p1.toNatClampNeg a13)) (fun σ15 => some (.inr (), σ15, 0, 0))))) (bndX (fX0_makeFlatOfTwo F σ7 p2 p3) (fun a16 σ16 => ck (vp_in p1 24) (nmd (o_s_fr σ16 (upd (o_fr σ16) p1.toNatClampNeg a16)) (fun σ18 => some (.inr (), σ18, 0, 0)))))))) (some (.inl 2, σ7, 1, 6)))))))
set_option maxHeartbeats 4000000 in
set_option maxRecDepth 100000 in
theorem kX0_join (l : Launch) (htr : l.stackTraces = false) (G : gT) (h0 : Nat) (h : oH) (sz F : Nat) (σ : oS) (p1 : Int32) (p2 : Int32) (p3 : Int32) (r : Int32 ⊕ Unit) (σr : oS) (C N : Nat) (hg : fX0_join F σ p1 p2 p3 = some (r, σr, C, N)) : vx_Met l yX0_join wsX0_join (rX0_join C N) (oPreX G h0 h σ sz [.int p1, .int p2, .int p3]) (oyv G h0 h r σr (oA G h0 h σ sz)) (oyX G h0 h r σr (oA G h0 h σ sz)) C N (oA G h0 h σ sz) := by
  refine oxMet (Qc := oyv G h0 h r σr) (XC := oyX G h0 h r σr) (by decide +kernel) rfl rfl (Nat.le_of_ble_eq_true rfl) ?_
  intro p e s m args below meth c A S hr hlocks hno hK hA hZ H locs hI ls hl
  have hl : lv_has ls 6 [(0, .ref h0), (1, .int p1), (2, .int p2), (3, .int p3)] := hl
  have hin : ∀ w ∈ wsX00, w ∈ wsX0_join := by decide +kernel
  have hx := S.1
  have hb := S.2.1
  have hts := S.2.2.2.2
  have hown := S.2.2.2.1
  have hC : 0 + C ≤ C := by omega
  have hN : 0 + N ≤ N := by omega
  unfold fX0_join at hg
  refine lv_iload_n hx hb dX0_join_0 rfl (lv_at hl 1 rfl) ?_
  rcases bndN_e hg with ⟨e1, hc2, er, eσ, eC, eN⟩ | ⟨hc2, hg⟩
  · subst er; subst eσ
    exact ont_y (mc := 1) (ms := 6) S hK hA hZ hI hno hlocks (As := [.int p1]) (rest := []) (kX0_needRoot l htr H.size F p1 (.inl e1) hc2) (va_cwS 1 hts gX0_join_X0_needRoot rfl rfl rfl nX0_needRoot ⟨Nat.le_of_ble_eq_true rfl, Nat.le_of_ble_eq_true rfl⟩) rfl hl.1 rfl (Nat.le_of_ble_eq_true rfl) dX0_join_1 ⟨by show 0 + 1 ≤ C; omega, by show 0 + 6 ≤ N; omega⟩ rfl (by show 0 + 1 ≤ C; omega) (by show 0 + 6 ≤ N; omega)
  · refine onv (mc := 0) (ms := 0) S hA hZ hI (As := [.int p1]) (rest := []) (kX0_needRoot l htr H.size F p1 (.inr ()) hc2) (va_cwS 1 hts gX0_join_X0_needRoot rfl rfl rfl nX0_needRoot ⟨Nat.le_of_ble_eq_true rfl, Nat.le_of_ble_eq_true rfl⟩) rfl hl.1 rfl (Nat.le_of_ble_eq_true rfl) dX0_join_1 ⟨by show 0 + 0 ≤ C; omega, by show 0 + 0 ≤ N; omega⟩ (fun H locs hI => ?_)
    refine lv_aload_n hx hb dX0_join_4 rfl (lv_at hl 0 rfl) ?_
    refine lv_iload_n hx hb dX0_join_5 rfl (lv_at hl 2 rfl) ?_
    rcases bndX_e hg with ⟨e3, hc3, er⟩ | ⟨a3, σ3, c3, n3, C3, N3, hc3, hg, eC, eN⟩
    · subst er
      exact oxt_vy S hK hA hZ hI hno hlocks (As := [.int p2]) (rest := []) (kX0_needText l htr G h0 h H.size F σ p2 _ _ _ _ hc3) (cwV 1 hts gX0_join_X0_needText rfl rfl rfl nX0_needText ⟨Nat.le_of_ble_eq_true rfl, Nat.le_of_ble_eq_true rfl⟩) rfl hl.1 rfl (Nat.le_of_ble_eq_true rfl) dX0_join_6 ⟨by show (0 + 0) + C ≤ C; omega, by show (0 + 0) + N ≤ N; omega⟩ rfl (by omega) (by omega)
    · refine oxc_v S hK hA hZ hI (As := [.int p2]) (rest := []) (kX0_needText l htr G h0 h H.size F σ p2 _ _ _ _ hc3) (cwV 1 hts gX0_join_X0_needText rfl rfl rfl nX0_needText ⟨Nat.le_of_ble_eq_true rfl, Nat.le_of_ble_eq_true rfl⟩) rfl hl.1 rfl (Nat.le_of_ble_eq_true rfl) dX0_join_6 ⟨by show (0 + 0) + c3 ≤ C; omega, by show (0 + 0) + n3 ≤ N; omega⟩ (fun H locs hI => ?_)
      have hC : ((0 + 0) + c3) + C3 ≤ C := by omega
      have hN : ((0 + 0) + n3) + N3 ≤ N := by omega
      refine lv_aload_n hx hb dX0_join_9 rfl (lv_at hl 0 rfl) ?_
      refine lv_iload_n hx hb dX0_join_10 rfl (lv_at hl 3 rfl) ?_
      rcases bndX_e hg with ⟨e4, hc4, er⟩ | ⟨a4, σ4, c4, n4, C4, N4, hc4, hg, eC, eN⟩
      · subst er
        exact oxt_vy S hK hA hZ hI hno hlocks (As := [.int p3]) (rest := []) (kX0_needText l htr G h0 h H.size F σ3 p3 _ _ _ _ hc4) (cwV 1 hts gX0_join_X0_needText rfl rfl rfl nX0_needText ⟨Nat.le_of_ble_eq_true rfl, Nat.le_of_ble_eq_true rfl⟩) rfl hl.1 rfl (Nat.le_of_ble_eq_true rfl) dX0_join_11 ⟨by show ((0 + 0) + c3) + C3 ≤ C; omega, by show ((0 + 0) + n3) + N3 ≤ N; omega⟩ rfl (by omega) (by omega)
      · refine oxc_v S hK hA hZ hI (As := [.int p3]) (rest := []) (kX0_needText l htr G h0 h H.size F σ3 p3 _ _ _ _ hc4) (cwV 1 hts gX0_join_X0_needText rfl rfl rfl nX0_needText ⟨Nat.le_of_ble_eq_true rfl, Nat.le_of_ble_eq_true rfl⟩) rfl hl.1 rfl (Nat.le_of_ble_eq_true rfl) dX0_join_11 ⟨by show ((0 + 0) + c3) + c4 ≤ C; omega, by show ((0 + 0) + n3) + n4 ≤ N; omega⟩ (fun H locs hI => ?_)
        have hC : (((0 + 0) + c3) + c4) + C4 ≤ C := by omega
        have hN : (((0 + 0) + n3) + n4) + N4 ≤ N := by omega
        refine lv_aload_n hx hb dX0_join_14 rfl (lv_at hl 0 rfl) ?_
        refine lv_iload_n hx hb dX0_join_15 rfl (lv_at hl 2 rfl) ?_
        obtain ⟨r6, σ5, er6, hg⟩ := bnd_e hg
        refine oc_i S hK hA hI (As := [.int p2]) (rest := []) (kX0_lengthIn l G h0 h H.size F σ4 p2  r6 σ5 er6) (cwV 1 hts gX0_join_X0_lengthIn rfl rfl rfl nX0_lengthIn ⟨Nat.le_of_ble_eq_true rfl, Nat.le_of_ble_eq_true rfl⟩) rfl hl.1 rfl (Nat.le_of_ble_eq_true rfl) dX0_join_16 ⟨by show (((0 + 0) + c3) + c4) + 0 ≤ C; omega, by show (((0 + 0) + n3) + n4) + 0 ≤ N; omega⟩ (fun H locs hI => ?_)
        refine lv_istore (lv' := [(4, .int r6), (0, .ref h0), (1, .int p1), (2, .int p2), (3, .int p3)]) hx hb dX0_join_19 hl (by decide) rfl (fun ls hl => ?_)
        refine lv_aload_n hx hb dX0_join_21 rfl (lv_at hl 1 rfl) ?_
        refine lv_iload_n hx hb dX0_join_22 rfl (lv_at hl 4 rfl) ?_
        obtain ⟨r8, σ7, er8, hg⟩ := bnd_e hg
        refine oc_i S hK hA hI (As := [.int p3]) (rest := []) (kX0_lengthIn l G h0 h H.size F σ5 p3  r8 σ7 er8) (cwV 1 hts gX0_join_X0_lengthIn rfl rfl rfl nX0_lengthIn ⟨Nat.le_of_ble_eq_true rfl, Nat.le_of_ble_eq_true rfl⟩) rfl hl.1 rfl (Nat.le_of_ble_eq_true rfl) dX0_join_23 ⟨by show ((((0 + 0) + c3) + c4) + 0) + 0 ≤ C; omega, by show ((((0 + 0) + n3) + n4) + 0) + 0 ≤ N; omega⟩ (fun H locs hI => ?_)
        refine lv_istore (lv' := [(5, .int r8), (4, .int r6), (0, .ref h0), (1, .int p1), (2, .int p2), (3, .int p3)]) hx hb dX0_join_26 hl (by decide) rfl (fun ls hl => ?_)
        refine lv_iload hx hb dX0_join_28 (lv_at hl 1 rfl) ?_
        refine lv_iload hx hb dX0_join_30 (lv_at hl 0 rfl) ?_
        refine lv_iadd hx hb dX0_join_32 ?_
        refine lv_sipush (v := 4000) hx hb dX0_join_33 (by decide) ?_
        refine lv_icmp_le (tgt := 49) hx hb dX0_join_36 (by decide) (fun c9 => ?_) (fun c9 => ?_)
        · have hg := cIf_te c9 hg
          refine lv_iload hx hb dX0_join_49 (lv_at hl 1 rfl) ?_
          refine lv_if_ne (tgt := 69) hx hb dX0_join_51 (by decide) (fun c10 => ?_) (fun c10 => ?_)
          · have hg := cIf_fe c10 hg
            refine lv_iload hx hb dX0_join_69 (lv_at hl 0 rfl) ?_
            refine lv_if_ne (tgt := 89) hx hb dX0_join_71 (by decide) (fun c11 => ?_) (fun c11 => ?_)
            · have hg := cIf_fe c11 hg
              refine lv_iload hx hb dX0_join_89 (lv_at hl 1 rfl) ?_
              refine lv_iload hx hb dX0_join_91 (lv_at hl 0 rfl) ?_
              refine lv_iadd hx hb dX0_join_93 ?_
              refine lv_bipush (v := 24) hx hb dX0_join_94 (by decide) ?_
              refine lv_icmp_gt (tgt := 114) hx hb dX0_join_96 (by decide) (fun c12 => ?_) (fun c12 => ?_)
              · have hg := cIf_te c12 hg
                refine lv_aload_n hx hb dX0_join_114 rfl (lv_at hl 2 rfl) ?_
                refine og_roots S hin hK hI (ix := 30) (by decide +kernel) dX0_join_115 ?_
                refine lv_iload_n hx hb dX0_join_118 rfl (lv_at hl 3 rfl) ?_
                refine lv_aload_n hx hb dX0_join_119 rfl (lv_at hl 2 rfl) ?_
                refine lv_iload_n hx hb dX0_join_120 rfl (lv_at hl 4 rfl) ?_
                refine lv_iload_n hx hb dX0_join_121 rfl (lv_at hl 5 rfl) ?_
                rcases bndX_e hg with ⟨e13, hc13, er⟩ | ⟨a13, σ13, c13, n13, C13, N13, hc13, hg, eC, eN⟩
                · subst er
                  exact oyt_iy S hK hA hZ hI hno hlocks (As := [.int p2, .int p3]) (rest := [.int p1, .ref h.2.1]) (kX0_makeJoined l htr G h0 h H.size F σ7 p2 p3 _ _ _ _ hc13) (cwV 2 hts gX0_join_X0_makeJoined rfl rfl rfl nX0_makeJoined ⟨Nat.le_of_ble_eq_true rfl, Nat.le_of_ble_eq_true rfl⟩) rfl hl.1 rfl (Nat.le_of_ble_eq_true rfl) dX0_join_122 ⟨by show (((((0 + 0) + c3) + c4) + 0) + 0) + C4 ≤ C; omega, by show (((((0 + 0) + n3) + n4) + 0) + 0) + N4 ≤ N; omega⟩ rfl (by omega) (by omega)
                · refine oyc_i S hK hA hZ hI (As := [.int p2, .int p3]) (rest := [.int p1, .ref h.2.1]) (kX0_makeJoined l htr G h0 h H.size F σ7 p2 p3 _ _ _ _ hc13) (cwV 2 hts gX0_join_X0_makeJoined rfl rfl rfl nX0_makeJoined ⟨Nat.le_of_ble_eq_true rfl, Nat.le_of_ble_eq_true rfl⟩) rfl hl.1 rfl (Nat.le_of_ble_eq_true rfl) dX0_join_122 ⟨by show (((((0 + 0) + c3) + c4) + 0) + 0) + c13 ≤ C; omega, by show (((((0 + 0) + n3) + n4) + 0) + 0) + n13 ≤ N; omega⟩ (fun hw13 hn13 H locs hI => ?_)
                  have hC : ((((((0 + 0) + c3) + c4) + 0) + 0) + c13) + C13 ≤ C := by omega
                  have hN : ((((((0 + 0) + n3) + n4) + 0) + 0) + n13) + N13 ≤ N := by omega
                  obtain ⟨c14, hg⟩ := ck_e hg
                  obtain ⟨σ15, eσ15, hg⟩ := nmd_e hg
                  refine ou_roots S hK hI c14 eσ15 dX0_join_125 (fun H locs hI => ?_)
                  exact oye_v S hr hlocks hK hI rfl hg (by omega) (by omega) dX0_join_126
              · have hg := cIf_fe c12 hg
                refine lv_aload_n hx hb dX0_join_99 rfl (lv_at hl 2 rfl) ?_
                refine og_roots S hin hK hI (ix := 30) (by decide +kernel) dX0_join_100 ?_
                refine lv_iload_n hx hb dX0_join_103 rfl (lv_at hl 3 rfl) ?_
                refine lv_aload_n hx hb dX0_join_104 rfl (lv_at hl 2 rfl) ?_
                refine lv_iload_n hx hb dX0_join_105 rfl (lv_at hl 4 rfl) ?_
                refine lv_iload_n hx hb dX0_join_106 rfl (lv_at hl 5 rfl) ?_
                rcases bndX_e hg with ⟨e16, hc16, er⟩ | ⟨a16, σ16, c16, n16, C16, N16, hc16, hg, eC, eN⟩
                · subst er
                  exact oyt_iy S hK hA hZ hI hno hlocks (As := [.int p2, .int p3]) (rest := [.int p1, .ref h.2.1]) (kX0_makeFlatOfTwo l htr G h0 h H.size F σ7 p2 p3 _ _ _ _ hc16) (cwV 2 hts gX0_join_X0_makeFlatOfTwo rfl rfl rfl nX0_makeFlatOfTwo ⟨Nat.le_of_ble_eq_true rfl, Nat.le_of_ble_eq_true rfl⟩) rfl hl.1 rfl (Nat.le_of_ble_eq_true rfl) dX0_join_107 ⟨by show (((((0 + 0) + c3) + c4) + 0) + 0) + C4 ≤ C; omega, by show (((((0 + 0) + n3) + n4) + 0) + 0) + N4 ≤ N; omega⟩ rfl (by omega) (by omega)
                · refine oyc_i S hK hA hZ hI (As := [.int p2, .int p3]) (rest := [.int p1, .ref h.2.1]) (kX0_makeFlatOfTwo l htr G h0 h H.size F σ7 p2 p3 _ _ _ _ hc16) (cwV 2 hts gX0_join_X0_makeFlatOfTwo rfl rfl rfl nX0_makeFlatOfTwo ⟨Nat.le_of_ble_eq_true rfl, Nat.le_of_ble_eq_true rfl⟩) rfl hl.1 rfl (Nat.le_of_ble_eq_true rfl) dX0_join_107 ⟨by show (((((0 + 0) + c3) + c4) + 0) + 0) + c16 ≤ C; omega, by show (((((0 + 0) + n3) + n4) + 0) + 0) + n16 ≤ N; omega⟩ (fun hw16 hn16 H locs hI => ?_)
                  have hC : ((((((0 + 0) + c3) + c4) + 0) + 0) + c16) + C16 ≤ C := by omega
                  have hN : ((((((0 + 0) + n3) + n4) + 0) + 0) + n16) + N16 ≤ N := by omega
                  obtain ⟨c17, hg⟩ := ck_e hg
                  obtain ⟨σ18, eσ18, hg⟩ := nmd_e hg
                  refine ou_roots S hK hI c17 eσ18 dX0_join_110 (fun H locs hI => ?_)
                  refine lv_goto (tgt := 126) hx hb dX0_join_111 (by decide) ?_
                  exact oye_v S hr hlocks hK hI rfl hg (by omega) (by omega) dX0_join_126
            · have hg := cIf_te c11 hg
              refine lv_aload_n hx hb dX0_join_74 rfl (lv_at hl 2 rfl) ?_
              refine og_roots S hin hK hI (ix := 30) (by decide +kernel) dX0_join_75 ?_
              refine lv_iload_n hx hb dX0_join_78 rfl (lv_at hl 3 rfl) ?_
              refine lv_aload_n hx hb dX0_join_79 rfl (lv_at hl 2 rfl) ?_
              refine og_roots S hin hK hI (ix := 30) (by decide +kernel) dX0_join_80 ?_
              refine lv_iload_n hx hb dX0_join_83 rfl (lv_at hl 4 rfl) ?_
              obtain ⟨c19, hg⟩ := ck_e hg
              obtain ⟨x20, ex20, hg⟩ := nmd_e hg
              refine or_roots S hK hI c19 ex20 dX0_join_84 ?_
              obtain ⟨c21, hg⟩ := ck_e hg
              obtain ⟨σ22, eσ22, hg⟩ := nmd_e hg
              refine ou_roots S hK hI c21 eσ22 dX0_join_85 (fun H locs hI => ?_)
              refine lv_goto (tgt := 126) hx hb dX0_join_86 (by decide) ?_
              exact oye_v S hr hlocks hK hI rfl hg (by omega) (by omega) dX0_join_126
          · have hg := cIf_te c10 hg
            refine lv_aload_n hx hb dX0_join_54 rfl (lv_at hl 2 rfl) ?_
            refine og_roots S hin hK hI (ix := 30) (by decide +kernel) dX0_join_55 ?_
            refine lv_iload_n hx hb dX0_join_58 rfl (lv_at hl 3 rfl) ?_
            refine lv_aload_n hx hb dX0_join_59 rfl (lv_at hl 2 rfl) ?_
            refine og_roots S hin hK hI (ix := 30) (by decide +kernel) dX0_join_60 ?_
            refine lv_iload_n hx hb dX0_join_63 rfl (lv_at hl 5 rfl) ?_
            obtain ⟨c23, hg⟩ := ck_e hg
            obtain ⟨x24, ex24, hg⟩ := nmd_e hg
            refine or_roots S hK hI c23 ex24 dX0_join_64 ?_
            obtain ⟨c25, hg⟩ := ck_e hg
            obtain ⟨σ26, eσ26, hg⟩ := nmd_e hg
            refine ou_roots S hK hI c25 eσ26 dX0_join_65 (fun H locs hI => ?_)
            refine lv_goto (tgt := 126) hx hb dX0_join_66 (by decide) ?_
            exact oye_v S hr hlocks hK hI rfl hg (by omega) (by omega) dX0_join_126
        · have hg := cIf_fe c9 hg
          obtain ⟨e1, e2, e3, e4⟩ := x4_e hg
          subst e1; subst e2
          exact oth2_y S hK hZ hI rfl hno hlocks htr (is := 120) (tx := "too many units") (by decide +kernel) (by decide +kernel) (by decide +kernel) (by decide +kernel) hl.1 dX0_join_39 dX0_join_42 dX0_join_43 dX0_join_45 dX0_join_48 (Nat.le_of_ble_eq_true rfl) (Nat.le_of_ble_eq_true rfl) (by show (((((0 + 0) + c3) + c4) + 0) + 0) + 1 ≤ C; omega) (by show (((((0 + 0) + n3) + n4) + 0) + 0) + 6 ≤ N; omega) (by omega) (by omega)
-- OwnMemory.part (may throw)
abbrev rX0_part (C N : Nat) : Room := { frames := 9, cells := C, slots := N, locals := 163 }
theorem nX0_part : yX0_part.cls = RX0 ∧ yX0_part.cls ≠ "java/lang/invoke/MethodHandle" ∧ yX0_part.cls ≠ "java/lang/invoke/VarHandle" ∧ (parseMethodDescriptor yX0_part.desc).map (fun d => d.parameters.length) = some 4 := by decide +kernel
noncomputable def fX0_part (F : Nat) (σ : oS) (p1 : Int32) (p2 : Int32) (p3 : Int32) (p4 : Int32) : xT Unit := bndN (fX0_needRoot F p1) σ (bndX (fX0_needText F σ p2) (fun a3 σ3 => cIf (p3 < 0) (some (.inl 1, σ3, 1, 6)) (cIf (p4 < p3) (some (.inl 1, σ3, 1, 6)) (bnd (fX0_lengthIn F σ3 p2) (fun r7 σ6 => cIf (p4 ≤ r7) (bndX (fX0_goOver F σ6 p2) (fun a9 σ9 => bndX (fX0_makeFlat F σ9 2 (p4 - p3)) (fun a10 σ10 => ck (vp_in p2 24) (nmd (o_fr σ10 p2.toNatClampNeg) (fun x12 => bnd (fX0_flatOf F σ10 x12) (fun r14 σ13 => bnp (fX0_copyUnits F σ13 r14 p3 p4 a10 0) (fun σ15 => ck (vp_in p1 24) (nmd (o_s_fr σ15 (upd (o_fr σ15) p1.toNatClampNeg a10)) (fun σ17 => some (.inr (), σ17, 0, 0)))))))))) (some (.inl 1, σ6, 1, 6)))))))
set_option maxHeartbeats 4000000 in
set_option maxRecDepth 100000 in
theorem kX0_part (l : Launch) (htr : l.stackTraces = false) (G : gT) (h0 : Nat) (h : oH) (sz F : Nat) (σ : oS) (p1 : Int32) (p2 : Int32) (p3 : Int32) (p4 : Int32) (r : Int32 ⊕ Unit) (σr : oS) (C N : Nat) (hg : fX0_part F σ p1 p2 p3 p4 = some (r, σr, C, N)) : vx_Met l yX0_part wsX0_part (rX0_part C N) (oPreX G h0 h σ sz [.int p1, .int p2, .int p3, .int p4]) (oyv G h0 h r σr (oA G h0 h σ sz)) (oyX G h0 h r σr (oA G h0 h σ sz)) C N (oA G h0 h σ sz) := by
  refine oxMet (Qc := oyv G h0 h r σr) (XC := oyX G h0 h r σr) (by decide +kernel) rfl rfl (Nat.le_of_ble_eq_true rfl) ?_
  intro p e s m args below meth c A S hr hlocks hno hK hA hZ H locs hI ls hl
  have hl : lv_has ls 6 [(0, .ref h0), (1, .int p1), (2, .int p2), (3, .int p3), (4, .int p4)] := hl
  have hin : ∀ w ∈ wsX00, w ∈ wsX0_part := by decide +kernel
  have hx := S.1
  have hb := S.2.1
  have hts := S.2.2.2.2
  have hown := S.2.2.2.1
  have hC : 0 + C ≤ C := by omega
  have hN : 0 + N ≤ N := by omega
  unfold fX0_part at hg
  refine lv_iload_n hx hb dX0_part_0 rfl (lv_at hl 1 rfl) ?_
  rcases bndN_e hg with ⟨e1, hc2, er, eσ, eC, eN⟩ | ⟨hc2, hg⟩
  · subst er; subst eσ
    exact ont_y (mc := 1) (ms := 6) S hK hA hZ hI hno hlocks (As := [.int p1]) (rest := []) (kX0_needRoot l htr H.size F p1 (.inl e1) hc2) (va_cwS 1 hts gX0_part_X0_needRoot rfl rfl rfl nX0_needRoot ⟨Nat.le_of_ble_eq_true rfl, Nat.le_of_ble_eq_true rfl⟩) rfl hl.1 rfl (Nat.le_of_ble_eq_true rfl) dX0_part_1 ⟨by show 0 + 1 ≤ C; omega, by show 0 + 6 ≤ N; omega⟩ rfl (by show 0 + 1 ≤ C; omega) (by show 0 + 6 ≤ N; omega)
  · refine onv (mc := 0) (ms := 0) S hA hZ hI (As := [.int p1]) (rest := []) (kX0_needRoot l htr H.size F p1 (.inr ()) hc2) (va_cwS 1 hts gX0_part_X0_needRoot rfl rfl rfl nX0_needRoot ⟨Nat.le_of_ble_eq_true rfl, Nat.le_of_ble_eq_true rfl⟩) rfl hl.1 rfl (Nat.le_of_ble_eq_true rfl) dX0_part_1 ⟨by show 0 + 0 ≤ C; omega, by show 0 + 0 ≤ N; omega⟩ (fun H locs hI => ?_)
    refine lv_aload_n hx hb dX0_part_4 rfl (lv_at hl 0 rfl) ?_
    refine lv_iload_n hx hb dX0_part_5 rfl (lv_at hl 2 rfl) ?_
    rcases bndX_e hg with ⟨e3, hc3, er⟩ | ⟨a3, σ3, c3, n3, C3, N3, hc3, hg, eC, eN⟩
    · subst er
      exact oxt_vy S hK hA hZ hI hno hlocks (As := [.int p2]) (rest := []) (kX0_needText l htr G h0 h H.size F σ p2 _ _ _ _ hc3) (cwV 1 hts gX0_part_X0_needText rfl rfl rfl nX0_needText ⟨Nat.le_of_ble_eq_true rfl, Nat.le_of_ble_eq_true rfl⟩) rfl hl.1 rfl (Nat.le_of_ble_eq_true rfl) dX0_part_6 ⟨by show (0 + 0) + C ≤ C; omega, by show (0 + 0) + N ≤ N; omega⟩ rfl (by omega) (by omega)
    · refine oxc_v S hK hA hZ hI (As := [.int p2]) (rest := []) (kX0_needText l htr G h0 h H.size F σ p2 _ _ _ _ hc3) (cwV 1 hts gX0_part_X0_needText rfl rfl rfl nX0_needText ⟨Nat.le_of_ble_eq_true rfl, Nat.le_of_ble_eq_true rfl⟩) rfl hl.1 rfl (Nat.le_of_ble_eq_true rfl) dX0_part_6 ⟨by show (0 + 0) + c3 ≤ C; omega, by show (0 + 0) + n3 ≤ N; omega⟩ (fun H locs hI => ?_)
      have hC : ((0 + 0) + c3) + C3 ≤ C := by omega
      have hN : ((0 + 0) + n3) + N3 ≤ N := by omega
      refine lv_iload_n hx hb dX0_part_9 rfl (lv_at hl 3 rfl) ?_
      refine lv_if_lt (tgt := 29) hx hb dX0_part_10 (by decide) (fun c4 => ?_) (fun c4 => ?_)
      · have hg := cIf_te c4 hg
        obtain ⟨e1, e2, e3, e4⟩ := x4_e hg
        subst e1; subst e2
        exact oth1_y S hK hZ hI rfl hno hlocks htr (is := 129) (tx := "no such part") (by decide +kernel) (by decide +kernel) (by decide +kernel) (by decide +kernel) hl.1 dX0_part_29 dX0_part_32 dX0_part_33 dX0_part_35 dX0_part_38 (Nat.le_of_ble_eq_true rfl) (Nat.le_of_ble_eq_true rfl) (by show ((0 + 0) + c3) + 1 ≤ C; omega) (by show ((0 + 0) + n3) + 6 ≤ N; omega) (by omega) (by omega)
      · have hg := cIf_fe c4 hg
        refine lv_iload hx hb dX0_part_13 (lv_at hl 4 rfl) ?_
        refine lv_iload_n hx hb dX0_part_15 rfl (lv_at hl 3 rfl) ?_
        refine lv_icmp_lt (tgt := 29) hx hb dX0_part_16 (by decide) (fun c5 => ?_) (fun c5 => ?_)
        · have hg := cIf_te c5 hg
          obtain ⟨e1, e2, e3, e4⟩ := x4_e hg
          subst e1; subst e2
          exact oth1_y S hK hZ hI rfl hno hlocks htr (is := 129) (tx := "no such part") (by decide +kernel) (by decide +kernel) (by decide +kernel) (by decide +kernel) hl.1 dX0_part_29 dX0_part_32 dX0_part_33 dX0_part_35 dX0_part_38 (Nat.le_of_ble_eq_true rfl) (Nat.le_of_ble_eq_true rfl) (by show ((0 + 0) + c3) + 1 ≤ C; omega) (by show ((0 + 0) + n3) + 6 ≤ N; omega) (by omega) (by omega)
        · have hg := cIf_fe c5 hg
          refine lv_iload hx hb dX0_part_19 (lv_at hl 4 rfl) ?_
          refine lv_aload_n hx hb dX0_part_21 rfl (lv_at hl 0 rfl) ?_
          refine lv_iload_n hx hb dX0_part_22 rfl (lv_at hl 2 rfl) ?_
          obtain ⟨r7, σ6, er7, hg⟩ := bnd_e hg
          refine oc_i S hK hA hI (As := [.int p2]) (rest := [.int p4]) (kX0_lengthIn l G h0 h H.size F σ3 p2  r7 σ6 er7) (cwV 1 hts gX0_part_X0_lengthIn rfl rfl rfl nX0_lengthIn ⟨Nat.le_of_ble_eq_true rfl, Nat.le_of_ble_eq_true rfl⟩) rfl hl.1 rfl (Nat.le_of_ble_eq_true rfl) dX0_part_23 ⟨by show ((0 + 0) + c3) + 0 ≤ C; omega, by show ((0 + 0) + n3) + 0 ≤ N; omega⟩ (fun H locs hI => ?_)
          refine lv_icmp_le (tgt := 39) hx hb dX0_part_26 (by decide) (fun c8 => ?_) (fun c8 => ?_)
          · have hg := cIf_te c8 hg
            refine lv_aload_n hx hb dX0_part_39 rfl (lv_at hl 0 rfl) ?_
            refine lv_iload_n hx hb dX0_part_40 rfl (lv_at hl 2 rfl) ?_
            rcases bndX_e hg with ⟨e9, hc9, er⟩ | ⟨a9, σ9, c9, n9, C9, N9, hc9, hg, eC, eN⟩
            · subst er
              exact oyt_vy S hK hA hZ hI hno hlocks (As := [.int p2]) (rest := []) (kX0_goOver l htr G h0 h H.size F σ6 p2 _ _ _ _ hc9) (cwV 1 hts gX0_part_X0_goOver rfl rfl rfl nX0_goOver ⟨Nat.le_of_ble_eq_true rfl, Nat.le_of_ble_eq_true rfl⟩) rfl hl.1 rfl (Nat.le_of_ble_eq_true rfl) dX0_part_41 ⟨by show (((0 + 0) + c3) + 0) + C3 ≤ C; omega, by show (((0 + 0) + n3) + 0) + N3 ≤ N; omega⟩ rfl (by omega) (by omega)
            · refine oyc_v S hK hA hZ hI (As := [.int p2]) (rest := []) (kX0_goOver l htr G h0 h H.size F σ6 p2 _ _ _ _ hc9) (cwV 1 hts gX0_part_X0_goOver rfl rfl rfl nX0_goOver ⟨Nat.le_of_ble_eq_true rfl, Nat.le_of_ble_eq_true rfl⟩) rfl hl.1 rfl (Nat.le_of_ble_eq_true rfl) dX0_part_41 ⟨by show (((0 + 0) + c3) + 0) + c9 ≤ C; omega, by show (((0 + 0) + n3) + 0) + n9 ≤ N; omega⟩ (fun hw9 hn9 H locs hI => ?_)
              have hC : ((((0 + 0) + c3) + 0) + c9) + C9 ≤ C := by omega
              have hN : ((((0 + 0) + n3) + 0) + n9) + N9 ≤ N := by omega
              refine lv_aload_n hx hb dX0_part_44 rfl (lv_at hl 0 rfl) ?_
              refine lv_iconst (v := 2) hx hb dX0_part_45 (by decide) ?_
              refine lv_iload hx hb dX0_part_46 (lv_at hl 4 rfl) ?_
              refine lv_iload_n hx hb dX0_part_48 rfl (lv_at hl 3 rfl) ?_
              refine lv_isub hx hb dX0_part_49 ?_
              rcases bndX_e hg with ⟨e10, hc10, er⟩ | ⟨a10, σ10, c10, n10, C10, N10, hc10, hg, eC, eN⟩
              · subst er
                exact oyt_iy S hK hA hZ hI hno hlocks (As := [.int 2, .int (p4 - p3)]) (rest := []) (kX0_makeFlat l htr G h0 (hw9, h.2.1, hn9, h.2.2.2) H.size F σ9 2 (p4 - p3) _ _ _ _ hc10) (cwV 2 hts gX0_part_X0_makeFlat rfl rfl rfl nX0_makeFlat ⟨Nat.le_of_ble_eq_true rfl, Nat.le_of_ble_eq_true rfl⟩) rfl hl.1 rfl (Nat.le_of_ble_eq_true rfl) dX0_part_50 ⟨by show ((((0 + 0) + c3) + 0) + c9) + C9 ≤ C; omega, by show ((((0 + 0) + n3) + 0) + n9) + N9 ≤ N; omega⟩ rfl (by omega) (by omega)
              · refine oyc_i S hK hA hZ hI (As := [.int 2, .int (p4 - p3)]) (rest := []) (kX0_makeFlat l htr G h0 (hw9, h.2.1, hn9, h.2.2.2) H.size F σ9 2 (p4 - p3) _ _ _ _ hc10) (cwV 2 hts gX0_part_X0_makeFlat rfl rfl rfl nX0_makeFlat ⟨Nat.le_of_ble_eq_true rfl, Nat.le_of_ble_eq_true rfl⟩) rfl hl.1 rfl (Nat.le_of_ble_eq_true rfl) dX0_part_50 ⟨by show ((((0 + 0) + c3) + 0) + c9) + c10 ≤ C; omega, by show ((((0 + 0) + n3) + 0) + n9) + n10 ≤ N; omega⟩ (fun hw10 hn10 H locs hI => ?_)
                have hC : (((((0 + 0) + c3) + 0) + c9) + c10) + C10 ≤ C := by omega
                have hN : (((((0 + 0) + n3) + 0) + n9) + n10) + N10 ≤ N := by omega
                refine lv_istore (lv' := [(5, .int a10), (0, .ref h0), (1, .int p1), (2, .int p2), (3, .int p3), (4, .int p4)]) hx hb dX0_part_53 hl (by decide) rfl (fun ls hl => ?_)
                refine lv_aload_n hx hb dX0_part_55 rfl (lv_at hl 1 rfl) ?_
                refine lv_aload_n hx hb dX0_part_56 rfl (lv_at hl 1 rfl) ?_
                refine lv_aload_n hx hb dX0_part_57 rfl (lv_at hl 1 rfl) ?_
                refine og_roots S hin hK hI (ix := 30) (by decide +kernel) dX0_part_58 ?_
                refine lv_iload_n hx hb dX0_part_61 rfl (lv_at hl 3 rfl) ?_
                obtain ⟨c11, hg⟩ := ck_e hg
                obtain ⟨x12, ex12, hg⟩ := nmd_e hg
                refine or_roots S hK hI c11 ex12 dX0_part_62 ?_
                obtain ⟨r14, σ13, er14, hg⟩ := bnd_e hg
                refine oc_i S hK hA hI (As := [.int x12]) (rest := [.ref h0]) (kX0_flatOf l G h0 (hw10, h.2.1, hn10, h.2.2.2) H.size F σ10 x12  r14 σ13 er14) (cwV 1 hts gX0_part_X0_flatOf rfl rfl rfl nX0_flatOf ⟨Nat.le_of_ble_eq_true rfl, Nat.le_of_ble_eq_true rfl⟩) rfl hl.1 rfl (Nat.le_of_ble_eq_true rfl) dX0_part_63 ⟨by show (((((0 + 0) + c3) + 0) + c9) + c10) + 0 ≤ C; omega, by show (((((0 + 0) + n3) + 0) + n9) + n10) + 0 ≤ N; omega⟩ (fun H locs hI => ?_)
                refine lv_iload_n hx hb dX0_part_66 rfl (lv_at hl 4 rfl) ?_
                refine lv_iload hx hb dX0_part_67 (lv_at hl 5 rfl) ?_
                refine lv_iload hx hb dX0_part_69 (lv_at hl 0 rfl) ?_
                refine lv_iconst (v := 0) hx hb dX0_part_71 (by decide) ?_
                obtain ⟨σ15, eσ15, hg⟩ := bnp_e hg
                refine oc_v S hK hA hI (As := [.int r14, .int p3, .int p4, .int a10, .int 0]) (rest := []) (kX0_copyUnits l G h0 (hw10, h.2.1, hn10, h.2.2.2) H.size F σ13 r14 p3 p4 a10 0  σ15 eσ15) (cwV 5 hts gX0_part_X0_copyUnits rfl rfl rfl nX0_copyUnits ⟨Nat.le_of_ble_eq_true rfl, Nat.le_of_ble_eq_true rfl⟩) rfl hl.1 rfl (Nat.le_of_ble_eq_true rfl) dX0_part_72 ⟨by show ((((((0 + 0) + c3) + 0) + c9) + c10) + 0) + 0 ≤ C; omega, by show ((((((0 + 0) + n3) + 0) + n9) + n10) + 0) + 0 ≤ N; omega⟩ (fun H locs hI => ?_)
                refine lv_aload_n hx hb dX0_part_75 rfl (lv_at hl 1 rfl) ?_
                refine og_roots S hin hK hI (ix := 30) (by decide +kernel) dX0_part_76 ?_
                refine lv_iload_n hx hb dX0_part_79 rfl (lv_at hl 2 rfl) ?_
                refine lv_iload hx hb dX0_part_80 (lv_at hl 0 rfl) ?_
                obtain ⟨c16, hg⟩ := ck_e hg
                obtain ⟨σ17, eσ17, hg⟩ := nmd_e hg
                refine ou_roots S hK hI c16 eσ17 dX0_part_82 (fun H locs hI => ?_)
                exact oye_v S hr hlocks hK hI rfl hg (by omega) (by omega) dX0_part_83
          · have hg := cIf_fe c8 hg
            obtain ⟨e1, e2, e3, e4⟩ := x4_e hg
            subst e1; subst e2
            exact oth1_y S hK hZ hI rfl hno hlocks htr (is := 129) (tx := "no such part") (by decide +kernel) (by decide +kernel) (by decide +kernel) (by decide +kernel) hl.1 dX0_part_29 dX0_part_32 dX0_part_33 dX0_part_35 dX0_part_38 (Nat.le_of_ble_eq_true rfl) (Nat.le_of_ble_eq_true rfl) (by show (((0 + 0) + c3) + 0) + 1 ≤ C; omega) (by show (((0 + 0) + n3) + 0) + 6 ≤ N; omega) (by omega) (by omega)
-- OwnMemory.unit (may throw)
abbrev rX0_unit (C N : Nat) : Room := { frames := 9, cells := C, slots := N, locals := 163 }
theorem nX0_unit : yX0_unit.cls = RX0 ∧ yX0_unit.cls ≠ "java/lang/invoke/MethodHandle" ∧ yX0_unit.cls ≠ "java/lang/invoke/VarHandle" ∧ (parseMethodDescriptor yX0_unit.desc).map (fun d => d.parameters.length) = some 2 := by decide +kernel
noncomputable def fX0_unit (F : Nat) (σ : oS) (p1 : Int32) (p2 : Int32) : xT Int32 := bndX (fX0_needText F σ p1) (fun a1 σ1 => cIf (p2 < 0) (some (.inl 1, σ1, 1, 6)) (bnd (fX0_lengthIn F σ1 p1) (fun r4 σ3 => cIf (p2 < r4) (bndX (fX0_goOver F σ3 p1) (fun a6 σ6 => ck (vp_in p1 24) (nmd (o_fr σ6 p1.toNatClampNeg) (fun x8 => bnd (fX0_flatOf F σ6 x8) (fun r10 σ9 => bnd (fX0_unitAt F σ9 r10 p2) (fun r12 σ11 => some (.inr r12, σ11, 0, 0))))))) (some (.inl 1, σ3, 1, 6)))))
set_option maxHeartbeats 4000000 in
set_option maxRecDepth 100000 in
theorem kX0_unit (l : Launch) (htr : l.stackTraces = false) (G : gT) (h0 : Nat) (h : oH) (sz F : Nat) (σ : oS) (p1 : Int32) (p2 : Int32) (r : Int32 ⊕ Int32) (σr : oS) (C N : Nat) (hg : fX0_unit F σ p1 p2 = some (r, σr, C, N)) : vx_Met l yX0_unit wsX0_unit (rX0_unit C N) (oPreX G h0 h σ sz [.int p1, .int p2]) (oyi G h0 h r σr (oA G h0 h σ sz)) (oyX G h0 h r σr (oA G h0 h σ sz)) C N (oA G h0 h σ sz) := by
  refine oxMet (Qc := oyi G h0 h r σr) (XC := oyX G h0 h r σr) (by decide +kernel) rfl rfl (Nat.le_of_ble_eq_true rfl) ?_
  intro p e s m args below meth c A S hr hlocks hno hK hA hZ H locs hI ls hl
  have hl : lv_has ls 3 [(0, .ref h0), (1, .int p1), (2, .int p2)] := hl
  have hin : ∀ w ∈ wsX00, w ∈ wsX0_unit := by decide +kernel
  have hx := S.1
  have hb := S.2.1
  have hts := S.2.2.2.2
  have hown := S.2.2.2.1
  have hC : 0 + C ≤ C := by omega
  have hN : 0 + N ≤ N := by omega
  unfold fX0_unit at hg
  refine lv_aload_n hx hb dX0_unit_0 rfl (lv_at hl 0 rfl) ?_
  refine lv_iload_n hx hb dX0_unit_1 rfl (lv_at hl 1 rfl) ?_
  rcases bndX_e hg with ⟨e1, hc1, er⟩ | ⟨a1, σ1, c1, n1, C1, N1, hc1, hg, eC, eN⟩
  · subst er
    exact oxt_vy S hK hA hZ hI hno hlocks (As := [.int p1]) (rest := []) (kX0_needText l htr G h0 h H.size F σ p1 _ _ _ _ hc1) (cwV 1 hts gX0_unit_X0_needText rfl rfl rfl nX0_needText ⟨Nat.le_of_ble_eq_true rfl, Nat.le_of_ble_eq_true rfl⟩) rfl hl.1 rfl (Nat.le_of_ble_eq_true rfl) dX0_unit_2 ⟨by show 0 + C ≤ C; omega, by show 0 + N ≤ N; omega⟩ rfl (by omega) (by omega)
  · refine oxc_v S hK hA hZ hI (As := [.int p1]) (rest := []) (kX0_needText l htr G h0 h H.size F σ p1 _ _ _ _ hc1) (cwV 1 hts gX0_unit_X0_needText rfl rfl rfl nX0_needText ⟨Nat.le_of_ble_eq_true rfl, Nat.le_of_ble_eq_true rfl⟩) rfl hl.1 rfl (Nat.le_of_ble_eq_true rfl) dX0_unit_2 ⟨by show 0 + c1 ≤ C; omega, by show 0 + n1 ≤ N; omega⟩ (fun H locs hI => ?_)
    have hC : (0 + c1) + C1 ≤ C := by omega
    have hN : (0 + n1) + N1 ≤ N := by omega
    refine lv_iload_n hx hb dX0_unit_5 rfl (lv_at hl 2 rfl) ?_
    refine lv_if_lt (tgt := 18) hx hb dX0_unit_6 (by decide) (fun c2 => ?_) (fun c2 => ?_)
    · have hg := cIf_te c2 hg
      obtain ⟨e1, e2, e3, e4⟩ := x4_e hg
      subst e1; subst e2
      exact oth1_y S hK hZ hI rfl hno hlocks htr (is := 141) (tx := "no such unit") (by decide +kernel) (by decide +kernel) (by decide +kernel) (by decide +kernel) hl.1 dX0_unit_18 dX0_unit_21 dX0_unit_22 dX0_unit_24 dX0_unit_27 (Nat.le_of_ble_eq_true rfl) (Nat.le_of_ble_eq_true rfl) (by show (0 + c1) + 1 ≤ C; omega) (by show (0 + n1) + 6 ≤ N; omega) (by omega) (by omega)
    · have hg := cIf_fe c2 hg
      refine lv_iload_n hx hb dX0_unit_9 rfl (lv_at hl 2 rfl) ?_
      refine lv_aload_n hx hb dX0_unit_10 rfl (lv_at hl 0 rfl) ?_
      refine lv_iload_n hx hb dX0_unit_11 rfl (lv_at hl 1 rfl) ?_
      obtain ⟨r4, σ3, er4, hg⟩ := bnd_e hg
      refine oc_i S hK hA hI (As := [.int p1]) (rest := [.int p2]) (kX0_lengthIn l G h0 h H.size F σ1 p1  r4 σ3 er4) (cwV 1 hts gX0_unit_X0_lengthIn rfl rfl rfl nX0_lengthIn ⟨Nat.le_of_ble_eq_true rfl, Nat.le_of_ble_eq_true rfl⟩) rfl hl.1 rfl (Nat.le_of_ble_eq_true rfl) dX0_unit_12 ⟨by show (0 + c1) + 0 ≤ C; omega, by show (0 + n1) + 0 ≤ N; omega⟩ (fun H locs hI => ?_)
      refine lv_icmp_lt (tgt := 28) hx hb dX0_unit_15 (by decide) (fun c5 => ?_) (fun c5 => ?_)
      · have hg := cIf_te c5 hg
        refine lv_aload_n hx hb dX0_unit_28 rfl (lv_at hl 0 rfl) ?_
        refine lv_iload_n hx hb dX0_unit_29 rfl (lv_at hl 1 rfl) ?_
        rcases bndX_e hg with ⟨e6, hc6, er⟩ | ⟨a6, σ6, c6, n6, C6, N6, hc6, hg, eC, eN⟩
        · subst er
          exact oyt_vy S hK hA hZ hI hno hlocks (As := [.int p1]) (rest := []) (kX0_goOver l htr G h0 h H.size F σ3 p1 _ _ _ _ hc6) (cwV 1 hts gX0_unit_X0_goOver rfl rfl rfl nX0_goOver ⟨Nat.le_of_ble_eq_true rfl, Nat.le_of_ble_eq_true rfl⟩) rfl hl.1 rfl (Nat.le_of_ble_eq_true rfl) dX0_unit_30 ⟨by show ((0 + c1) + 0) + C1 ≤ C; omega, by show ((0 + n1) + 0) + N1 ≤ N; omega⟩ rfl (by omega) (by omega)
        · refine oyc_v S hK hA hZ hI (As := [.int p1]) (rest := []) (kX0_goOver l htr G h0 h H.size F σ3 p1 _ _ _ _ hc6) (cwV 1 hts gX0_unit_X0_goOver rfl rfl rfl nX0_goOver ⟨Nat.le_of_ble_eq_true rfl, Nat.le_of_ble_eq_true rfl⟩) rfl hl.1 rfl (Nat.le_of_ble_eq_true rfl) dX0_unit_30 ⟨by show ((0 + c1) + 0) + c6 ≤ C; omega, by show ((0 + n1) + 0) + n6 ≤ N; omega⟩ (fun hw6 hn6 H locs hI => ?_)
          have hC : (((0 + c1) + 0) + c6) + C6 ≤ C := by omega
          have hN : (((0 + n1) + 0) + n6) + N6 ≤ N := by omega
          refine lv_aload_n hx hb dX0_unit_33 rfl (lv_at hl 0 rfl) ?_
          refine lv_aload_n hx hb dX0_unit_34 rfl (lv_at hl 0 rfl) ?_
          refine lv_aload_n hx hb dX0_unit_35 rfl (lv_at hl 0 rfl) ?_
          refine og_roots S hin hK hI (ix := 30) (by decide +kernel) dX0_unit_36 ?_
          refine lv_iload_n hx hb dX0_unit_39 rfl (lv_at hl 1 rfl) ?_
          obtain ⟨c7, hg⟩ := ck_e hg
          obtain ⟨x8, ex8, hg⟩ := nmd_e hg
          refine or_roots S hK hI c7 ex8 dX0_unit_40 ?_
          obtain ⟨r10, σ9, er10, hg⟩ := bnd_e hg
          refine oc_i S hK hA hI (As := [.int x8]) (rest := [.ref h0]) (kX0_flatOf l G h0 (hw6, h.2.1, hn6, h.2.2.2) H.size F σ6 x8  r10 σ9 er10) (cwV 1 hts gX0_unit_X0_flatOf rfl rfl rfl nX0_flatOf ⟨Nat.le_of_ble_eq_true rfl, Nat.le_of_ble_eq_true rfl⟩) rfl hl.1 rfl (Nat.le_of_ble_eq_true rfl) dX0_unit_41 ⟨by show (((0 + c1) + 0) + c6) + 0 ≤ C; omega, by show (((0 + n1) + 0) + n6) + 0 ≤ N; omega⟩ (fun H locs hI => ?_)
          refine lv_iload_n hx hb dX0_unit_44 rfl (lv_at hl 2 rfl) ?_
          obtain ⟨r12, σ11, er12, hg⟩ := bnd_e hg
          refine oc_i S hK hA hI (As := [.int r10, .int p2]) (rest := []) (kX0_unitAt l G h0 (hw6, h.2.1, hn6, h.2.2.2) H.size F σ9 r10 p2  r12 σ11 er12) (cwV 2 hts gX0_unit_X0_unitAt rfl rfl rfl nX0_unitAt ⟨Nat.le_of_ble_eq_true rfl, Nat.le_of_ble_eq_true rfl⟩) rfl hl.1 rfl (Nat.le_of_ble_eq_true rfl) dX0_unit_45 ⟨by show ((((0 + c1) + 0) + c6) + 0) + 0 ≤ C; omega, by show ((((0 + n1) + 0) + n6) + 0) + 0 ≤ N; omega⟩ (fun H locs hI => ?_)
          exact oye_i S hr hlocks hK hI rfl hg (by omega) (by omega) dX0_unit_48
      · have hg := cIf_fe c5 hg
        obtain ⟨e1, e2, e3, e4⟩ := x4_e hg
        subst e1; subst e2
        exact oth1_y S hK hZ hI rfl hno hlocks htr (is := 141) (tx := "no such unit") (by decide +kernel) (by decide +kernel) (by decide +kernel) (by decide +kernel) hl.1 dX0_unit_18 dX0_unit_21 dX0_unit_22 dX0_unit_24 dX0_unit_27 (Nat.le_of_ble_eq_true rfl) (Nat.le_of_ble_eq_true rfl) (by show ((0 + c1) + 0) + 1 ≤ C; omega) (by show ((0 + n1) + 0) + 6 ≤ N; omega) (by omega) (by omega)
-- OwnMemory.compare (may throw)
abbrev rX0_compare (C N : Nat) : Room := { frames := 9, cells := C, slots := N, locals := 163 }
theorem nX0_compare : yX0_compare.cls = RX0 ∧ yX0_compare.cls ≠ "java/lang/invoke/MethodHandle" ∧ yX0_compare.cls ≠ "java/lang/invoke/VarHandle" ∧ (parseMethodDescriptor yX0_compare.desc).map (fun d => d.parameters.length) = some 2 := by decide +kernel
noncomputable def LX0_compare_61 (F : Nat) (K : Int32 → oS → Option ((Int32 ⊕ Int32) × oS × Nat × Nat)) (v1 : Int32) (v2 : Int32) (v3 : Int32) (v4 : Int32) (v5 : Int32) : Nat → Int32 → oS → Option ((Int32 ⊕ Int32) × oS × Nat × Nat)
  | 0, _, _ => none
  | n + 1, v6, σ => cIf (v5 ≤ v6) (K v6 σ) (bnd (fX0_unitAt F σ v3 v6) (fun r20 σ19 => bnd (fX0_unitAt F σ19 v4 v6) (fun r22 σ21 => nmd (r20 - r22) (fun x23 => cIf (x23 = 0) (nmd (v6 + 1) (fun x25 => LX0_compare_61 F K v1 v2 v3 v4 v5 n x25 σ21)) (nmd (sgn x23) (fun x26 => some (.inr x26, σ21, 0, 0)))))))
noncomputable def fX0_compare (F : Nat) (σ : oS) (p1 : Int32) (p2 : Int32) : xT Int32 := bndX (fX0_needText F σ p1) (fun a1 σ1 => bndX (fX0_needText F σ1 p2) (fun a2 σ2 => bndX (fX0_goOver F σ2 p1) (fun a3 σ3 => bndX (fX0_goOver F σ3 p2) (fun a4 σ4 => ck (vp_in p1 24) (nmd (o_fr σ4 p1.toNatClampNeg) (fun x6 => bnd (fX0_flatOf F σ4 x6) (fun r8 σ7 => ck (vp_in p2 24) (nmd (o_fr σ7 p2.toNatClampNeg) (fun x10 => bnd (fX0_flatOf F σ7 x10) (fun r12 σ11 => bnd (fX0_lengthIn F σ11 p1) (fun r14 σ13 => bnd (fX0_lengthIn F σ13 p2) (fun r16 σ15 => nmd (cIf (r16 < r14) r16 r14) (fun x17 => LX0_compare_61 F (fun w27 σ28 => bnd (fX0_lengthIn F σ28 p1) (fun r30 σ29 => bnd (fX0_lengthIn F σ29 p2) (fun r32 σ31 => nmd (sgn (r30 - r32)) (fun x33 => some (.inr x33, σ31, 0, 0))))) p1 p2 r8 r12 x17 F 0 σ15)))))))))))))
set_option maxHeartbeats 4000000 in
set_option maxRecDepth 100000 in
theorem lX0_compare_61 {p : Program} {l : Launch} {e : Env} {s : State} {m : MethodId} {args : Array Value} {below : List Frame} {meth : Method} {c : Code} {A : Nat → Prop} {G : gT} {h0 : Nat} {h : oH} {F : Nat} {C N Cr Nr cells slots : Nat} {r : Int32 ⊕ Int32} {σr : oS} {hw hn : Nat} (S : CallFix p m c cX0_compare 8 s args wsX0_compare RX0) (hr : meth.sig.returnType = some .int) (hlocks : meth.locks = false) (hin : ∀ w ∈ wsX00, w ∈ wsX0_compare) (hK : gK G s) (hA : ∀ q, s.heap.size ≤ q → A q) (htr : l.stackTraces = false) (hno : ∀ x ∈ c.exceptionTable.toList, False) (hZ : xZ A s s.heap) (hC : cells + Cr ≤ C) (hN : slots + Nr ≤ N) {K : Int32 → oS → Option ((Int32 ⊕ Int32) × oS × Nat × Nat)} (v1 : Int32) (v2 : Int32) (v3 : Int32) (v4 : Int32) (v5 : Int32) (n : Nat) : ∀ (v6 : Int32) (σ : oS) (H : Heap) (locs : List Loc) (ls : Array Slot), LX0_compare_61 F K v1 v2 v3 v4 v5 n v6 σ = some (r, σr, Cr, Nr) → oI s A G h0 (hw, h.2.1, hn, h.2.2.2) σ H locs → lv_has ls 8 [(0, .ref h0), (1, .int v1), (2, .int v2), (3, .int v3), (4, .int v4), (5, .int v5), (6, .int v6)] → (∀ (v6 : Int32) (σ : oS) (H : Heap) (locs : List Loc) (ls : Array Slot), K v6 σ = some (r, σr, Cr, Nr) → oI s A G h0 (hw, h.2.1, hn, h.2.2.2) σ H locs → lv_has ls 8 [(0, .ref h0), (1, .int v1), (2, .int v2), (3, .int v3), (4, .int v4), (5, .int v5), (6, .int v6)] → W p l e (rX0_compare C N) s m args below meth c H locs cells slots (vx_MQ below (oyi G h0 h r σr A) (oyX G h0 h r σr A) args s C N A) (F0 m 103 ls [])) → W p l e (rX0_compare C N) s m args below meth c H locs cells slots (vx_MQ below (oyi G h0 h r σr A) (oyX G h0 h r σr A) args s C N A) (F0 m 61 ls []) := by
  have hx := S.1
  have hb := S.2.1
  have hts := S.2.2.2.2
  have hown := S.2.2.2.1
  induction n with
  | zero => intro v6 σ H locs ls hg; rw [LX0_compare_61] at hg; cases hg
  | succ n ih =>
    intro v6 σ H locs ls hg hI hl kk
    rw [LX0_compare_61] at hg
    refine lv_iload hx hb dX0_compare_61 (lv_at hl 6 rfl) ?_
    refine lv_iload hx hb dX0_compare_63 (lv_at hl 5 rfl) ?_
    refine lv_icmp_ge (tgt := 103) hx hb dX0_compare_65 (by decide) (fun c18 => ?_) (fun c18 => ?_)
    · have hg := cIf_te c18 hg
      exact kk v6 σ H locs ls hg hI (lv_sub hl [0, 1, 2, 3, 4, 5, 6] rfl)
    · have hg := cIf_fe c18 hg
      refine lv_aload_n hx hb dX0_compare_68 rfl (lv_at hl 0 rfl) ?_
      refine lv_iload_n hx hb dX0_compare_69 rfl (lv_at hl 3 rfl) ?_
      refine lv_iload hx hb dX0_compare_70 (lv_at hl 6 rfl) ?_
      obtain ⟨r20, σ19, er20, hg⟩ := bnd_e hg
      refine oc_i S hK hA hI (As := [.int v3, .int v6]) (rest := []) (kX0_unitAt l G h0 (hw, h.2.1, hn, h.2.2.2) H.size F σ v3 v6  r20 σ19 er20) (cwV 2 hts gX0_compare_X0_unitAt rfl rfl rfl nX0_unitAt ⟨Nat.le_of_ble_eq_true rfl, Nat.le_of_ble_eq_true rfl⟩) rfl hl.1 rfl (Nat.le_of_ble_eq_true rfl) dX0_compare_72 ⟨by show cells + 0 ≤ C; omega, by show slots + 0 ≤ N; omega⟩ (fun H locs hI => ?_)
      refine lv_aload_n hx hb dX0_compare_75 rfl (lv_at hl 0 rfl) ?_
      refine lv_iload hx hb dX0_compare_76 (lv_at hl 4 rfl) ?_
      refine lv_iload hx hb dX0_compare_78 (lv_at hl 6 rfl) ?_
      obtain ⟨r22, σ21, er22, hg⟩ := bnd_e hg
      refine oc_i S hK hA hI (As := [.int v4, .int v6]) (rest := [.int r20]) (kX0_unitAt l G h0 (hw, h.2.1, hn, h.2.2.2) H.size F σ19 v4 v6  r22 σ21 er22) (cwV 2 hts gX0_compare_X0_unitAt rfl rfl rfl nX0_unitAt ⟨Nat.le_of_ble_eq_true rfl, Nat.le_of_ble_eq_true rfl⟩) rfl hl.1 rfl (Nat.le_of_ble_eq_true rfl) dX0_compare_80 ⟨by show (cells + 0) + 0 ≤ C; omega, by show (slots + 0) + 0 ≤ N; omega⟩ (fun H locs hI => ?_)
      refine lv_isub hx hb dX0_compare_83 ?_
      obtain ⟨x23, ex23, hg⟩ := nmd_e hg
      refine wn_i ex23 ?_
      refine lv_istore (lv' := [(7, .int x23), (0, .ref h0), (1, .int v1), (2, .int v2), (3, .int v3), (4, .int v4), (5, .int v5), (6, .int v6)]) hx hb dX0_compare_84 hl (by decide) rfl (fun ls hl => ?_)
      refine lv_iload hx hb dX0_compare_86 (lv_at hl 0 rfl) ?_
      refine lv_if_eq (tgt := 97) hx hb dX0_compare_88 (by decide) (fun c24 => ?_) (fun c24 => ?_)
      · have hg := cIf_te c24 hg
        obtain ⟨x25, ex25, hg⟩ := nmd_e hg
        refine lv_iinc (v := x25) (lv' := [(6, .int x25), (7, .int x23), (0, .ref h0), (1, .int v1), (2, .int v2), (3, .int v3), (4, .int v4), (5, .int v5)]) hx hb dX0_compare_97 hl (k := 7) rfl (by rw [ex25]; rfl) (by decide) rfl (fun ls hl => ?_)
        refine lv_goto (tgt := 61) hx hb dX0_compare_100 (by decide) ?_
        exact ih x25 σ21 H locs ls hg hI (lv_sub hl [2, 3, 4, 5, 6, 7, 0] rfl) kk
      · have hg := cIf_fe c24 hg
        refine lv_iload hx hb dX0_compare_91 (lv_at hl 0 rfl) ?_
        obtain ⟨x26, ex26, hg⟩ := nmd_e hg
        refine os_i (mc := 0) (ms := 0) S hA hI (As := [.int x23]) (rest := []) (r := x26) (by rw [ex26]; exact kJ6_signum l H.size x23) (va_cwS 1 hts gX0_compare_J6_signum_0f7a4 rfl rfl rfl nJ6_signum ⟨Nat.le_of_ble_eq_true rfl, Nat.le_of_ble_eq_true rfl⟩) rfl hl.1 rfl (Nat.le_of_ble_eq_true rfl) dX0_compare_93 ⟨by show ((cells + 0) + 0) + 0 ≤ C; omega, by show ((slots + 0) + 0) + 0 ≤ N; omega⟩ (fun H locs hI => ?_)
        exact oye_i S hr hlocks hK hI rfl hg (by omega) (by omega) dX0_compare_96
set_option maxHeartbeats 4000000 in
set_option maxRecDepth 100000 in
theorem kX0_compare (l : Launch) (htr : l.stackTraces = false) (G : gT) (h0 : Nat) (h : oH) (sz F : Nat) (σ : oS) (p1 : Int32) (p2 : Int32) (r : Int32 ⊕ Int32) (σr : oS) (C N : Nat) (hg : fX0_compare F σ p1 p2 = some (r, σr, C, N)) : vx_Met l yX0_compare wsX0_compare (rX0_compare C N) (oPreX G h0 h σ sz [.int p1, .int p2]) (oyi G h0 h r σr (oA G h0 h σ sz)) (oyX G h0 h r σr (oA G h0 h σ sz)) C N (oA G h0 h σ sz) := by
  refine oxMet (Qc := oyi G h0 h r σr) (XC := oyX G h0 h r σr) (by decide +kernel) rfl rfl (Nat.le_of_ble_eq_true rfl) ?_
  intro p e s m args below meth c A S hr hlocks hno hK hA hZ H locs hI ls hl
  have hl : lv_has ls 8 [(0, .ref h0), (1, .int p1), (2, .int p2)] := hl
  have hin : ∀ w ∈ wsX00, w ∈ wsX0_compare := by decide +kernel
  have hx := S.1
  have hb := S.2.1
  have hts := S.2.2.2.2
  have hown := S.2.2.2.1
  have hC : 0 + C ≤ C := by omega
  have hN : 0 + N ≤ N := by omega
  unfold fX0_compare at hg
  refine lv_aload_n hx hb dX0_compare_0 rfl (lv_at hl 0 rfl) ?_
  refine lv_iload_n hx hb dX0_compare_1 rfl (lv_at hl 1 rfl) ?_
  rcases bndX_e hg with ⟨e1, hc1, er⟩ | ⟨a1, σ1, c1, n1, C1, N1, hc1, hg, eC, eN⟩
  · subst er
    exact oxt_vy S hK hA hZ hI hno hlocks (As := [.int p1]) (rest := []) (kX0_needText l htr G h0 h H.size F σ p1 _ _ _ _ hc1) (cwV 1 hts gX0_compare_X0_needText rfl rfl rfl nX0_needText ⟨Nat.le_of_ble_eq_true rfl, Nat.le_of_ble_eq_true rfl⟩) rfl hl.1 rfl (Nat.le_of_ble_eq_true rfl) dX0_compare_2 ⟨by show 0 + C ≤ C; omega, by show 0 + N ≤ N; omega⟩ rfl (by omega) (by omega)
  · refine oxc_v S hK hA hZ hI (As := [.int p1]) (rest := []) (kX0_needText l htr G h0 h H.size F σ p1 _ _ _ _ hc1) (cwV 1 hts gX0_compare_X0_needText rfl rfl rfl nX0_needText ⟨Nat.le_of_ble_eq_true rfl, Nat.le_of_ble_eq_true rfl⟩) rfl hl.1 rfl (Nat.le_of_ble_eq_true rfl) dX0_compare_2 ⟨by show 0 + c1 ≤ C; omega, by show 0 + n1 ≤ N; omega⟩ (fun H locs hI => ?_)
    have hC : (0 + c1) + C1 ≤ C := by omega
    have hN : (0 + n1) + N1 ≤ N := by omega
    refine lv_aload_n hx hb dX0_compare_5 rfl (lv_at hl 0 rfl) ?_
    refine lv_iload_n hx hb dX0_compare_6 rfl (lv_at hl 2 rfl) ?_
    rcases bndX_e hg with ⟨e2, hc2, er⟩ | ⟨a2, σ2, c2, n2, C2, N2, hc2, hg, eC, eN⟩
    · subst er
      exact oxt_vy S hK hA hZ hI hno hlocks (As := [.int p2]) (rest := []) (kX0_needText l htr G h0 h H.size F σ1 p2 _ _ _ _ hc2) (cwV 1 hts gX0_compare_X0_needText rfl rfl rfl nX0_needText ⟨Nat.le_of_ble_eq_true rfl, Nat.le_of_ble_eq_true rfl⟩) rfl hl.1 rfl (Nat.le_of_ble_eq_true rfl) dX0_compare_7 ⟨by show (0 + c1) + C1 ≤ C; omega, by show (0 + n1) + N1 ≤ N; omega⟩ rfl (by omega) (by omega)
    · refine oxc_v S hK hA hZ hI (As := [.int p2]) (rest := []) (kX0_needText l htr G h0 h H.size F σ1 p2 _ _ _ _ hc2) (cwV 1 hts gX0_compare_X0_needText rfl rfl rfl nX0_needText ⟨Nat.le_of_ble_eq_true rfl, Nat.le_of_ble_eq_true rfl⟩) rfl hl.1 rfl (Nat.le_of_ble_eq_true rfl) dX0_compare_7 ⟨by show (0 + c1) + c2 ≤ C; omega, by show (0 + n1) + n2 ≤ N; omega⟩ (fun H locs hI => ?_)
      have hC : ((0 + c1) + c2) + C2 ≤ C := by omega
      have hN : ((0 + n1) + n2) + N2 ≤ N := by omega
      refine lv_aload_n hx hb dX0_compare_10 rfl (lv_at hl 0 rfl) ?_
      refine lv_iload_n hx hb dX0_compare_11 rfl (lv_at hl 1 rfl) ?_
      rcases bndX_e hg with ⟨e3, hc3, er⟩ | ⟨a3, σ3, c3, n3, C3, N3, hc3, hg, eC, eN⟩
      · subst er
        exact oyt_vy S hK hA hZ hI hno hlocks (As := [.int p1]) (rest := []) (kX0_goOver l htr G h0 h H.size F σ2 p1 _ _ _ _ hc3) (cwV 1 hts gX0_compare_X0_goOver rfl rfl rfl nX0_goOver ⟨Nat.le_of_ble_eq_true rfl, Nat.le_of_ble_eq_true rfl⟩) rfl hl.1 rfl (Nat.le_of_ble_eq_true rfl) dX0_compare_12 ⟨by show ((0 + c1) + c2) + C2 ≤ C; omega, by show ((0 + n1) + n2) + N2 ≤ N; omega⟩ rfl (by omega) (by omega)
      · refine oyc_v S hK hA hZ hI (As := [.int p1]) (rest := []) (kX0_goOver l htr G h0 h H.size F σ2 p1 _ _ _ _ hc3) (cwV 1 hts gX0_compare_X0_goOver rfl rfl rfl nX0_goOver ⟨Nat.le_of_ble_eq_true rfl, Nat.le_of_ble_eq_true rfl⟩) rfl hl.1 rfl (Nat.le_of_ble_eq_true rfl) dX0_compare_12 ⟨by show ((0 + c1) + c2) + c3 ≤ C; omega, by show ((0 + n1) + n2) + n3 ≤ N; omega⟩ (fun hw3 hn3 H locs hI => ?_)
        have hC : (((0 + c1) + c2) + c3) + C3 ≤ C := by omega
        have hN : (((0 + n1) + n2) + n3) + N3 ≤ N := by omega
        refine lv_aload_n hx hb dX0_compare_15 rfl (lv_at hl 0 rfl) ?_
        refine lv_iload_n hx hb dX0_compare_16 rfl (lv_at hl 2 rfl) ?_
        rcases bndX_e hg with ⟨e4, hc4, er⟩ | ⟨a4, σ4, c4, n4, C4, N4, hc4, hg, eC, eN⟩
        · subst er
          exact oyt_vy S hK hA hZ hI hno hlocks (As := [.int p2]) (rest := []) (kX0_goOver l htr G h0 (hw3, h.2.1, hn3, h.2.2.2) H.size F σ3 p2 _ _ _ _ hc4) (cwV 1 hts gX0_compare_X0_goOver rfl rfl rfl nX0_goOver ⟨Nat.le_of_ble_eq_true rfl, Nat.le_of_ble_eq_true rfl⟩) rfl hl.1 rfl (Nat.le_of_ble_eq_true rfl) dX0_compare_17 ⟨by show (((0 + c1) + c2) + c3) + C3 ≤ C; omega, by show (((0 + n1) + n2) + n3) + N3 ≤ N; omega⟩ rfl (by omega) (by omega)
        · refine oyc_v S hK hA hZ hI (As := [.int p2]) (rest := []) (kX0_goOver l htr G h0 (hw3, h.2.1, hn3, h.2.2.2) H.size F σ3 p2 _ _ _ _ hc4) (cwV 1 hts gX0_compare_X0_goOver rfl rfl rfl nX0_goOver ⟨Nat.le_of_ble_eq_true rfl, Nat.le_of_ble_eq_true rfl⟩) rfl hl.1 rfl (Nat.le_of_ble_eq_true rfl) dX0_compare_17 ⟨by show (((0 + c1) + c2) + c3) + c4 ≤ C; omega, by show (((0 + n1) + n2) + n3) + n4 ≤ N; omega⟩ (fun hw4 hn4 H locs hI => ?_)
          have hC : ((((0 + c1) + c2) + c3) + c4) + C4 ≤ C := by omega
          have hN : ((((0 + n1) + n2) + n3) + n4) + N4 ≤ N := by omega
          refine lv_aload_n hx hb dX0_compare_20 rfl (lv_at hl 0 rfl) ?_
          refine lv_aload_n hx hb dX0_compare_21 rfl (lv_at hl 0 rfl) ?_
          refine og_roots S hin hK hI (ix := 30) (by decide +kernel) dX0_compare_22 ?_
          refine lv_iload_n hx hb dX0_compare_25 rfl (lv_at hl 1 rfl) ?_
          obtain ⟨c5, hg⟩ := ck_e hg
          obtain ⟨x6, ex6, hg⟩ := nmd_e hg
          refine or_roots S hK hI c5 ex6 dX0_compare_26 ?_
          obtain ⟨r8, σ7, er8, hg⟩ := bnd_e hg
          refine oc_i S hK hA hI (As := [.int x6]) (rest := []) (kX0_flatOf l G h0 (hw4, h.2.1, hn4, h.2.2.2) H.size F σ4 x6  r8 σ7 er8) (cwV 1 hts gX0_compare_X0_flatOf rfl rfl rfl nX0_flatOf ⟨Nat.le_of_ble_eq_true rfl, Nat.le_of_ble_eq_true rfl⟩) rfl hl.1 rfl (Nat.le_of_ble_eq_true rfl) dX0_compare_27 ⟨by show ((((0 + c1) + c2) + c3) + c4) + 0 ≤ C; omega, by show ((((0 + n1) + n2) + n3) + n4) + 0 ≤ N; omega⟩ (fun H locs hI => ?_)
          refine lv_istore_n (lv' := [(3, .int r8), (0, .ref h0), (1, .int p1), (2, .int p2)]) hx hb dX0_compare_30 rfl hl (by decide) rfl (fun ls hl => ?_)
          refine lv_aload_n hx hb dX0_compare_31 rfl (lv_at hl 1 rfl) ?_
          refine lv_aload_n hx hb dX0_compare_32 rfl (lv_at hl 1 rfl) ?_
          refine og_roots S hin hK hI (ix := 30) (by decide +kernel) dX0_compare_33 ?_
          refine lv_iload_n hx hb dX0_compare_36 rfl (lv_at hl 3 rfl) ?_
          obtain ⟨c9, hg⟩ := ck_e hg
          obtain ⟨x10, ex10, hg⟩ := nmd_e hg
          refine or_roots S hK hI c9 ex10 dX0_compare_37 ?_
          obtain ⟨r12, σ11, er12, hg⟩ := bnd_e hg
          refine oc_i S hK hA hI (As := [.int x10]) (rest := []) (kX0_flatOf l G h0 (hw4, h.2.1, hn4, h.2.2.2) H.size F σ7 x10  r12 σ11 er12) (cwV 1 hts gX0_compare_X0_flatOf rfl rfl rfl nX0_flatOf ⟨Nat.le_of_ble_eq_true rfl, Nat.le_of_ble_eq_true rfl⟩) rfl hl.1 rfl (Nat.le_of_ble_eq_true rfl) dX0_compare_38 ⟨by show (((((0 + c1) + c2) + c3) + c4) + 0) + 0 ≤ C; omega, by show (((((0 + n1) + n2) + n3) + n4) + 0) + 0 ≤ N; omega⟩ (fun H locs hI => ?_)
          refine lv_istore (lv' := [(4, .int r12), (3, .int r8), (0, .ref h0), (1, .int p1), (2, .int p2)]) hx hb dX0_compare_41 hl (by decide) rfl (fun ls hl => ?_)
          refine lv_aload_n hx hb dX0_compare_43 rfl (lv_at hl 2 rfl) ?_
          refine lv_iload_n hx hb dX0_compare_44 rfl (lv_at hl 3 rfl) ?_
          obtain ⟨r14, σ13, er14, hg⟩ := bnd_e hg
          refine oc_i S hK hA hI (As := [.int p1]) (rest := []) (kX0_lengthIn l G h0 (hw4, h.2.1, hn4, h.2.2.2) H.size F σ11 p1  r14 σ13 er14) (cwV 1 hts gX0_compare_X0_lengthIn rfl rfl rfl nX0_lengthIn ⟨Nat.le_of_ble_eq_true rfl, Nat.le_of_ble_eq_true rfl⟩) rfl hl.1 rfl (Nat.le_of_ble_eq_true rfl) dX0_compare_45 ⟨by show ((((((0 + c1) + c2) + c3) + c4) + 0) + 0) + 0 ≤ C; omega, by show ((((((0 + n1) + n2) + n3) + n4) + 0) + 0) + 0 ≤ N; omega⟩ (fun H locs hI => ?_)
          refine lv_aload_n hx hb dX0_compare_48 rfl (lv_at hl 2 rfl) ?_
          refine lv_iload_n hx hb dX0_compare_49 rfl (lv_at hl 4 rfl) ?_
          obtain ⟨r16, σ15, er16, hg⟩ := bnd_e hg
          refine oc_i S hK hA hI (As := [.int p2]) (rest := [.int r14]) (kX0_lengthIn l G h0 (hw4, h.2.1, hn4, h.2.2.2) H.size F σ13 p2  r16 σ15 er16) (cwV 1 hts gX0_compare_X0_lengthIn rfl rfl rfl nX0_lengthIn ⟨Nat.le_of_ble_eq_true rfl, Nat.le_of_ble_eq_true rfl⟩) rfl hl.1 rfl (Nat.le_of_ble_eq_true rfl) dX0_compare_50 ⟨by show (((((((0 + c1) + c2) + c3) + c4) + 0) + 0) + 0) + 0 ≤ C; omega, by show (((((((0 + n1) + n2) + n3) + n4) + 0) + 0) + 0) + 0 ≤ N; omega⟩ (fun H locs hI => ?_)
          obtain ⟨x17, ex17, hg⟩ := nmd_e hg
          refine ox_min S (ix := 10) (by decide +kernel) hl.1 ex17 (Nat.le_of_ble_eq_true rfl) (Nat.le_of_ble_eq_true rfl) (by show ((((((((0 + c1) + c2) + c3) + c4) + 0) + 0) + 0) + 0) ≤ C; omega) (by show ((((((((0 + n1) + n2) + n3) + n4) + 0) + 0) + 0) + 0) ≤ N; omega) dX0_compare_53 ?_
          refine lv_istore (lv' := [(5, .int x17), (4, .int r12), (3, .int r8), (0, .ref h0), (1, .int p1), (2, .int p2)]) hx hb dX0_compare_56 hl (by decide) rfl (fun ls hl => ?_)
          refine lv_iconst (v := 0) hx hb dX0_compare_58 (by decide) ?_
          refine lv_istore (lv' := [(6, .int 0), (5, .int x17), (4, .int r12), (3, .int r8), (0, .ref h0), (1, .int p1), (2, .int p2)]) hx hb dX0_compare_59 hl (by decide) rfl (fun ls hl => ?_)
          refine lX0_compare_61 S hr hlocks hin hK hA htr hno hZ (by omega) (by omega) p1 p2 r8 r12 x17 F 0 σ15 H locs ls hg hI (lv_sub hl [4, 5, 6, 3, 2, 1, 0] rfl) (fun w27 σ28 H locs ls hg hI hl => ?_)
          refine lv_aload_n hx hb dX0_compare_103 rfl (lv_at hl 0 rfl) ?_
          refine lv_iload_n hx hb dX0_compare_104 rfl (lv_at hl 1 rfl) ?_
          obtain ⟨r30, σ29, er30, hg⟩ := bnd_e hg
          refine oc_i S hK hA hI (As := [.int p1]) (rest := []) (kX0_lengthIn l G h0 (hw4, h.2.1, hn4, h.2.2.2) H.size F σ28 p1  r30 σ29 er30) (cwV 1 hts gX0_compare_X0_lengthIn rfl rfl rfl nX0_lengthIn ⟨Nat.le_of_ble_eq_true rfl, Nat.le_of_ble_eq_true rfl⟩) rfl hl.1 rfl (Nat.le_of_ble_eq_true rfl) dX0_compare_105 ⟨by show ((((((((0 + c1) + c2) + c3) + c4) + 0) + 0) + 0) + 0) + 0 ≤ C; omega, by show ((((((((0 + n1) + n2) + n3) + n4) + 0) + 0) + 0) + 0) + 0 ≤ N; omega⟩ (fun H locs hI => ?_)
          refine lv_aload_n hx hb dX0_compare_108 rfl (lv_at hl 0 rfl) ?_
          refine lv_iload_n hx hb dX0_compare_109 rfl (lv_at hl 2 rfl) ?_
          obtain ⟨r32, σ31, er32, hg⟩ := bnd_e hg
          refine oc_i S hK hA hI (As := [.int p2]) (rest := [.int r30]) (kX0_lengthIn l G h0 (hw4, h.2.1, hn4, h.2.2.2) H.size F σ29 p2  r32 σ31 er32) (cwV 1 hts gX0_compare_X0_lengthIn rfl rfl rfl nX0_lengthIn ⟨Nat.le_of_ble_eq_true rfl, Nat.le_of_ble_eq_true rfl⟩) rfl hl.1 rfl (Nat.le_of_ble_eq_true rfl) dX0_compare_110 ⟨by show (((((((((0 + c1) + c2) + c3) + c4) + 0) + 0) + 0) + 0) + 0) + 0 ≤ C; omega, by show (((((((((0 + n1) + n2) + n3) + n4) + 0) + 0) + 0) + 0) + 0) + 0 ≤ N; omega⟩ (fun H locs hI => ?_)
          refine lv_isub hx hb dX0_compare_113 ?_
          obtain ⟨x33, ex33, hg⟩ := nmd_e hg
          refine os_i (mc := 0) (ms := 0) S hA hI (As := [.int (r30 - r32)]) (rest := []) (r := x33) (by rw [ex33]; exact kJ6_signum l H.size (r30 - r32)) (va_cwS 1 hts gX0_compare_J6_signum_0f7a4 rfl rfl rfl nJ6_signum ⟨Nat.le_of_ble_eq_true rfl, Nat.le_of_ble_eq_true rfl⟩) rfl hl.1 rfl (Nat.le_of_ble_eq_true rfl) dX0_compare_114 ⟨by show ((((((((((0 + c1) + c2) + c3) + c4) + 0) + 0) + 0) + 0) + 0) + 0) + 0 ≤ C; omega, by show ((((((((((0 + n1) + n2) + n3) + n4) + 0) + 0) + 0) + 0) + 0) + 0) + 0 ≤ N; omega⟩ (fun H locs hI => ?_)
          exact oye_i S hr hlocks hK hI rfl hg (by omega) (by omega) dX0_compare_117
-- OwnMemory.name (may throw)
abbrev rX0_name (C N : Nat) : Room := { frames := 9, cells := C, slots := N, locals := 163 }
theorem nX0_name : yX0_name.cls = RX0 ∧ yX0_name.cls ≠ "java/lang/invoke/MethodHandle" ∧ yX0_name.cls ≠ "java/lang/invoke/VarHandle" ∧ (parseMethodDescriptor yX0_name.desc).map (fun d => d.parameters.length) = some 2 := by decide +kernel
noncomputable def fX0_name (F : Nat) (σ : oS) (p1 : Int32) (p2 : Int32) : xT Unit := bndN (fX0_needRoot F p1) σ (bndX (fX0_needText F σ p2) (fun a3 σ3 => ck (vp_in p2 24) (nmd (o_fr σ3 p2.toNatClampNeg) (fun x5 => bnd (fX0_kindAt F σ3 x5) (fun r7 σ6 => cIf (r7 = 5) (ck (vp_in p2 24) (nmd (o_fr σ6 p2.toNatClampNeg) (fun x23 => ck (vp_in p1 24) (nmd (o_s_fr σ6 (upd (o_fr σ6) p1.toNatClampNeg x23)) (fun σ25 => some (.inr (), σ25, 0, 0)))))) (bndX (fX0_goOver F σ6 p2) (fun a9 σ9 => ck (vp_in p2 24) (nmd (o_fr σ9 p2.toNatClampNeg) (fun x11 => bnd (fX0_flatOf F σ9 x11) (fun r13 σ12 => bnd (fX0_findName F σ12 r13) (fun r15 σ14 => cIf (r15 = (-1)) (bndX (fX0_makeName F σ14 p2) (fun a19 σ19 => ck (vp_in p1 24) (nmd (o_s_fr σ19 (upd (o_fr σ19) p1.toNatClampNeg a19)) (fun σ21 => some (.inr (), σ21, 0, 0))))) (ck (vp_in p1 24) (nmd (o_s_fr σ14 (upd (o_fr σ14) p1.toNatClampNeg r15)) (fun σ18 => some (.inr (), σ18, 0, 0)))))))))))))))
set_option maxHeartbeats 4000000 in
set_option maxRecDepth 100000 in
theorem kX0_name (l : Launch) (htr : l.stackTraces = false) (G : gT) (h0 : Nat) (h : oH) (sz F : Nat) (σ : oS) (p1 : Int32) (p2 : Int32) (r : Int32 ⊕ Unit) (σr : oS) (C N : Nat) (hg : fX0_name F σ p1 p2 = some (r, σr, C, N)) : vx_Met l yX0_name wsX0_name (rX0_name C N) (oPreX G h0 h σ sz [.int p1, .int p2]) (oyv G h0 h r σr (oA G h0 h σ sz)) (oyX G h0 h r σr (oA G h0 h σ sz)) C N (oA G h0 h σ sz) := by
  refine oxMet (Qc := oyv G h0 h r σr) (XC := oyX G h0 h r σr) (by decide +kernel) rfl rfl (Nat.le_of_ble_eq_true rfl) ?_
  intro p e s m args below meth c A S hr hlocks hno hK hA hZ H locs hI ls hl
  have hl : lv_has ls 4 [(0, .ref h0), (1, .int p1), (2, .int p2)] := hl
  have hin : ∀ w ∈ wsX00, w ∈ wsX0_name := by decide +kernel
  have hx := S.1
  have hb := S.2.1
  have hts := S.2.2.2.2
  have hown := S.2.2.2.1
  have hC : 0 + C ≤ C := by omega
  have hN : 0 + N ≤ N := by omega
  unfold fX0_name at hg
  refine lv_iload_n hx hb dX0_name_0 rfl (lv_at hl 1 rfl) ?_
  rcases bndN_e hg with ⟨e1, hc2, er, eσ, eC, eN⟩ | ⟨hc2, hg⟩
  · subst er; subst eσ
    exact ont_y (mc := 1) (ms := 6) S hK hA hZ hI hno hlocks (As := [.int p1]) (rest := []) (kX0_needRoot l htr H.size F p1 (.inl e1) hc2) (va_cwS 1 hts gX0_name_X0_needRoot rfl rfl rfl nX0_needRoot ⟨Nat.le_of_ble_eq_true rfl, Nat.le_of_ble_eq_true rfl⟩) rfl hl.1 rfl (Nat.le_of_ble_eq_true rfl) dX0_name_1 ⟨by show 0 + 1 ≤ C; omega, by show 0 + 6 ≤ N; omega⟩ rfl (by show 0 + 1 ≤ C; omega) (by show 0 + 6 ≤ N; omega)
  · refine onv (mc := 0) (ms := 0) S hA hZ hI (As := [.int p1]) (rest := []) (kX0_needRoot l htr H.size F p1 (.inr ()) hc2) (va_cwS 1 hts gX0_name_X0_needRoot rfl rfl rfl nX0_needRoot ⟨Nat.le_of_ble_eq_true rfl, Nat.le_of_ble_eq_true rfl⟩) rfl hl.1 rfl (Nat.le_of_ble_eq_true rfl) dX0_name_1 ⟨by show 0 + 0 ≤ C; omega, by show 0 + 0 ≤ N; omega⟩ (fun H locs hI => ?_)
    refine lv_aload_n hx hb dX0_name_4 rfl (lv_at hl 0 rfl) ?_
    refine lv_iload_n hx hb dX0_name_5 rfl (lv_at hl 2 rfl) ?_
    rcases bndX_e hg with ⟨e3, hc3, er⟩ | ⟨a3, σ3, c3, n3, C3, N3, hc3, hg, eC, eN⟩
    · subst er
      exact oxt_vy S hK hA hZ hI hno hlocks (As := [.int p2]) (rest := []) (kX0_needText l htr G h0 h H.size F σ p2 _ _ _ _ hc3) (cwV 1 hts gX0_name_X0_needText rfl rfl rfl nX0_needText ⟨Nat.le_of_ble_eq_true rfl, Nat.le_of_ble_eq_true rfl⟩) rfl hl.1 rfl (Nat.le_of_ble_eq_true rfl) dX0_name_6 ⟨by show (0 + 0) + C ≤ C; omega, by show (0 + 0) + N ≤ N; omega⟩ rfl (by omega) (by omega)
    · refine oxc_v S hK hA hZ hI (As := [.int p2]) (rest := []) (kX0_needText l htr G h0 h H.size F σ p2 _ _ _ _ hc3) (cwV 1 hts gX0_name_X0_needText rfl rfl rfl nX0_needText ⟨Nat.le_of_ble_eq_true rfl, Nat.le_of_ble_eq_true rfl⟩) rfl hl.1 rfl (Nat.le_of_ble_eq_true rfl) dX0_name_6 ⟨by show (0 + 0) + c3 ≤ C; omega, by show (0 + 0) + n3 ≤ N; omega⟩ (fun H locs hI => ?_)
      have hC : ((0 + 0) + c3) + C3 ≤ C := by omega
      have hN : ((0 + 0) + n3) + N3 ≤ N := by omega
      refine lv_aload_n hx hb dX0_name_9 rfl (lv_at hl 0 rfl) ?_
      refine lv_aload_n hx hb dX0_name_10 rfl (lv_at hl 0 rfl) ?_
      refine og_roots S hin hK hI (ix := 30) (by decide +kernel) dX0_name_11 ?_
      refine lv_iload_n hx hb dX0_name_14 rfl (lv_at hl 2 rfl) ?_
      obtain ⟨c4, hg⟩ := ck_e hg
      obtain ⟨x5, ex5, hg⟩ := nmd_e hg
      refine or_roots S hK hI c4 ex5 dX0_name_15 ?_
      obtain ⟨r7, σ6, er7, hg⟩ := bnd_e hg
      refine oc_i S hK hA hI (As := [.int x5]) (rest := []) (kX0_kindAt l G h0 h H.size F σ3 x5  r7 σ6 er7) (cwV 1 hts gX0_name_X0_kindAt rfl rfl rfl nX0_kindAt ⟨Nat.le_of_ble_eq_true rfl, Nat.le_of_ble_eq_true rfl⟩) rfl hl.1 rfl (Nat.le_of_ble_eq_true rfl) dX0_name_16 ⟨by show ((0 + 0) + c3) + 0 ≤ C; omega, by show ((0 + 0) + n3) + 0 ≤ N; omega⟩ (fun H locs hI => ?_)
      refine lv_iconst (v := 5) hx hb dX0_name_19 (by decide) ?_
      refine lv_icmp_ne (tgt := 36) hx hb dX0_name_20 (by decide) (fun c8 => ?_) (fun c8 => ?_)
      · have hg := cIf_fe c8 hg
        refine lv_aload_n hx hb dX0_name_36 rfl (lv_at hl 0 rfl) ?_
        refine lv_iload_n hx hb dX0_name_37 rfl (lv_at hl 2 rfl) ?_
        rcases bndX_e hg with ⟨e9, hc9, er⟩ | ⟨a9, σ9, c9, n9, C9, N9, hc9, hg, eC, eN⟩
        · subst er
          exact oyt_vy S hK hA hZ hI hno hlocks (As := [.int p2]) (rest := []) (kX0_goOver l htr G h0 h H.size F σ6 p2 _ _ _ _ hc9) (cwV 1 hts gX0_name_X0_goOver rfl rfl rfl nX0_goOver ⟨Nat.le_of_ble_eq_true rfl, Nat.le_of_ble_eq_true rfl⟩) rfl hl.1 rfl (Nat.le_of_ble_eq_true rfl) dX0_name_38 ⟨by show (((0 + 0) + c3) + 0) + C3 ≤ C; omega, by show (((0 + 0) + n3) + 0) + N3 ≤ N; omega⟩ rfl (by omega) (by omega)
        · refine oyc_v S hK hA hZ hI (As := [.int p2]) (rest := []) (kX0_goOver l htr G h0 h H.size F σ6 p2 _ _ _ _ hc9) (cwV 1 hts gX0_name_X0_goOver rfl rfl rfl nX0_goOver ⟨Nat.le_of_ble_eq_true rfl, Nat.le_of_ble_eq_true rfl⟩) rfl hl.1 rfl (Nat.le_of_ble_eq_true rfl) dX0_name_38 ⟨by show (((0 + 0) + c3) + 0) + c9 ≤ C; omega, by show (((0 + 0) + n3) + 0) + n9 ≤ N; omega⟩ (fun hw9 hn9 H locs hI => ?_)
          have hC : ((((0 + 0) + c3) + 0) + c9) + C9 ≤ C := by omega
          have hN : ((((0 + 0) + n3) + 0) + n9) + N9 ≤ N := by omega
          refine lv_aload_n hx hb dX0_name_41 rfl (lv_at hl 0 rfl) ?_
          refine lv_aload_n hx hb dX0_name_42 rfl (lv_at hl 0 rfl) ?_
          refine lv_aload_n hx hb dX0_name_43 rfl (lv_at hl 0 rfl) ?_
          refine og_roots S hin hK hI (ix := 30) (by decide +kernel) dX0_name_44 ?_
          refine lv_iload_n hx hb dX0_name_47 rfl (lv_at hl 2 rfl) ?_
          obtain ⟨c10, hg⟩ := ck_e hg
          obtain ⟨x11, ex11, hg⟩ := nmd_e hg
          refine or_roots S hK hI c10 ex11 dX0_name_48 ?_
          obtain ⟨r13, σ12, er13, hg⟩ := bnd_e hg
          refine oc_i S hK hA hI (As := [.int x11]) (rest := [.ref h0]) (kX0_flatOf l G h0 (hw9, h.2.1, hn9, h.2.2.2) H.size F σ9 x11  r13 σ12 er13) (cwV 1 hts gX0_name_X0_flatOf rfl rfl rfl nX0_flatOf ⟨Nat.le_of_ble_eq_true rfl, Nat.le_of_ble_eq_true rfl⟩) rfl hl.1 rfl (Nat.le_of_ble_eq_true rfl) dX0_name_49 ⟨by show ((((0 + 0) + c3) + 0) + c9) + 0 ≤ C; omega, by show ((((0 + 0) + n3) + 0) + n9) + 0 ≤ N; omega⟩ (fun H locs hI => ?_)
          obtain ⟨r15, σ14, er15, hg⟩ := bnd_e hg
          refine oc_i S hK hA hI (As := [.int r13]) (rest := []) (kX0_findName l G h0 (hw9, h.2.1, hn9, h.2.2.2) H.size F σ12 r13  r15 σ14 er15) (cwV 1 hts gX0_name_X0_findName rfl rfl rfl nX0_findName ⟨Nat.le_of_ble_eq_true rfl, Nat.le_of_ble_eq_true rfl⟩) rfl hl.1 rfl (Nat.le_of_ble_eq_true rfl) dX0_name_52 ⟨by show (((((0 + 0) + c3) + 0) + c9) + 0) + 0 ≤ C; omega, by show (((((0 + 0) + n3) + 0) + n9) + 0) + 0 ≤ N; omega⟩ (fun H locs hI => ?_)
          refine lv_istore_n (lv' := [(3, .int r15), (0, .ref h0), (1, .int p1), (2, .int p2)]) hx hb dX0_name_55 rfl hl (by decide) rfl (fun ls hl => ?_)
          refine lv_aload_n hx hb dX0_name_56 rfl (lv_at hl 1 rfl) ?_
          refine og_roots S hin hK hI (ix := 30) (by decide +kernel) dX0_name_57 ?_
          refine lv_iload_n hx hb dX0_name_60 rfl (lv_at hl 2 rfl) ?_
          refine lv_iload_n hx hb dX0_name_61 rfl (lv_at hl 0 rfl) ?_
          refine lv_iconst (v := (-1)) hx hb dX0_name_62 (by decide) ?_
          refine lv_icmp_ne (tgt := 74) hx hb dX0_name_63 (by decide) (fun c16 => ?_) (fun c16 => ?_)
          · have hg := cIf_fe c16 hg
            refine lv_iload_n hx hb dX0_name_74 rfl (lv_at hl 0 rfl) ?_
            obtain ⟨c17, hg⟩ := ck_e hg
            obtain ⟨σ18, eσ18, hg⟩ := nmd_e hg
            refine ou_roots S hK hI c17 eσ18 dX0_name_75 (fun H locs hI => ?_)
            exact oye_v S hr hlocks hK hI rfl hg (by omega) (by omega) dX0_name_76
          · have hg := cIf_te c16 hg
            refine lv_aload_n hx hb dX0_name_66 rfl (lv_at hl 1 rfl) ?_
            refine lv_iload_n hx hb dX0_name_67 rfl (lv_at hl 3 rfl) ?_
            rcases bndX_e hg with ⟨e19, hc19, er⟩ | ⟨a19, σ19, c19, n19, C19, N19, hc19, hg, eC, eN⟩
            · subst er
              exact oyt_iy S hK hA hZ hI hno hlocks (As := [.int p2]) (rest := [.int p1, .ref (hw9, h.2.1, hn9, h.2.2.2).2.1]) (kX0_makeName l htr G h0 (hw9, h.2.1, hn9, h.2.2.2) H.size F σ14 p2 _ _ _ _ hc19) (cwV 1 hts gX0_name_X0_makeName rfl rfl rfl nX0_makeName ⟨Nat.le_of_ble_eq_true rfl, Nat.le_of_ble_eq_true rfl⟩) rfl hl.1 rfl (Nat.le_of_ble_eq_true rfl) dX0_name_68 ⟨by show ((((((0 + 0) + c3) + 0) + c9) + 0) + 0) + C9 ≤ C; omega, by show ((((((0 + 0) + n3) + 0) + n9) + 0) + 0) + N9 ≤ N; omega⟩ rfl (by omega) (by omega)
            · refine oyc_i S hK hA hZ hI (As := [.int p2]) (rest := [.int p1, .ref (hw9, h.2.1, hn9, h.2.2.2).2.1]) (kX0_makeName l htr G h0 (hw9, h.2.1, hn9, h.2.2.2) H.size F σ14 p2 _ _ _ _ hc19) (cwV 1 hts gX0_name_X0_makeName rfl rfl rfl nX0_makeName ⟨Nat.le_of_ble_eq_true rfl, Nat.le_of_ble_eq_true rfl⟩) rfl hl.1 rfl (Nat.le_of_ble_eq_true rfl) dX0_name_68 ⟨by show ((((((0 + 0) + c3) + 0) + c9) + 0) + 0) + c19 ≤ C; omega, by show ((((((0 + 0) + n3) + 0) + n9) + 0) + 0) + n19 ≤ N; omega⟩ (fun hw19 hn19 H locs hI => ?_)
              have hC : (((((((0 + 0) + c3) + 0) + c9) + 0) + 0) + c19) + C19 ≤ C := by omega
              have hN : (((((((0 + 0) + n3) + 0) + n9) + 0) + 0) + n19) + N19 ≤ N := by omega
              refine lv_goto (tgt := 75) hx hb dX0_name_71 (by decide) ?_
              obtain ⟨c20, hg⟩ := ck_e hg
              obtain ⟨σ21, eσ21, hg⟩ := nmd_e hg
              refine ou_roots S hK hI c20 eσ21 dX0_name_75 (fun H locs hI => ?_)
              exact oye_v S hr hlocks hK hI rfl hg (by omega) (by omega) dX0_name_76
      · have hg := cIf_te c8 hg
        refine lv_aload_n hx hb dX0_name_23 rfl (lv_at hl 0 rfl) ?_
        refine og_roots S hin hK hI (ix := 30) (by decide +kernel) dX0_name_24 ?_
        refine lv_iload_n hx hb dX0_name_27 rfl (lv_at hl 1 rfl) ?_
        refine lv_aload_n hx hb dX0_name_28 rfl (lv_at hl 0 rfl) ?_
        refine og_roots S hin hK hI (ix := 30) (by decide +kernel) dX0_name_29 ?_
        refine lv_iload_n hx hb dX0_name_32 rfl (lv_at hl 2 rfl) ?_
        obtain ⟨c22, hg⟩ := ck_e hg
        obtain ⟨x23, ex23, hg⟩ := nmd_e hg
        refine or_roots S hK hI c22 ex23 dX0_name_33 ?_
        obtain ⟨c24, hg⟩ := ck_e hg
        obtain ⟨σ25, eσ25, hg⟩ := nmd_e hg
        refine ou_roots S hK hI c24 eσ25 dX0_name_34 (fun H locs hI => ?_)
        exact oye_v S hr hlocks hK hI rfl hg (by omega) (by omega) dX0_name_35
