/-! the law's cases -/
section LK
variable {p : Program} {l : Launch} {e : Env} {s : State} {m : MethodId} {below : List Frame} {meth : Method} {c : Code} {Q : State → Prop} {b L : Nat} {xs : Nat → Int32} {A : Nat → Prop} {G : gT} {h0 m0 ho : Nat} {mh : Nat → Nat} {F i j : Nat}
set_option maxHeartbeats 4000000 in
set_option maxRecDepth 100000 in
theorem lk_lead (hF : 1048600 < F) (X : LCx p l s m c b L xs A G) (hi : i + 5 ≤ L) (hj : j ≤ 511) (hK1 : KN p l e s m below meth c b A G h0 m0 ho mh Q 1506 i (j + 1)) : KN p l e s m below meth c b A G h0 m0 ho mh Q 499 i j := by
  intro h σ μ fo M Cc Nn H locs ls hI hSm hM hC hN hl
  obtain ⟨S, hK, hA, hbA, hZ, hNc, hX, hbl, hL, htr⟩ := X
  have hx := S.1
  have hb := S.2.1
  have hts := S.2.2.2.2
  have hown := S.2.2.2.1
  obtain ⟨r, σ1, C, N, μ1, f1, f2, ft, hk1, hAf⟩ := C_lead (F := F) (xs (i + 1)) (xs (i + 2)) (xs (i + 3)) hSm
  obtain ⟨⟨M1, hSm1, hm1, hm2⟩, hli, hC1, hN1⟩ := hAf
  have hpo := pot_le hSm1
  refine lv_aload_n hx hb dL_law_499 rfl (lv_at hl 1 rfl) ?_
  refine l_arg hx hb hX hbl hbA hI.2.2 (k := 1) (lv_at hl 0 rfl) (lv_at hl 4 rfl) (by decide) (by omega) hL dL_law_500 dL_law_501 dL_law_503 dL_law_504 dL_law_505 ?_
  refine l_arg hx hb hX hbl hbA hI.2.2 (k := 2) (lv_at hl 0 rfl) (lv_at hl 4 rfl) (by decide) (by omega) hL dL_law_506 dL_law_507 dL_law_509 dL_law_510 dL_law_511 ?_
  refine l_arg hx hb hX hbl hbA hI.2.2 (k := 3) (lv_at hl 0 rfl) (lv_at hl 4 rfl) (by decide) (by omega) hL dL_law_512 dL_law_513 dL_law_515 dL_law_516 dL_law_517 ?_
  refine lc_s S hK hA hZ hNc hI (As := [.int (xs (i + 1)), .int (xs (i + 2)), .int (xs (i + 3))]) (rest := []) (kL_lead l htr G h0 h H.size F σ (xs (i + 1)) (xs (i + 2)) (xs (i + 3)) r σ1 C N hk1 f1) (vx_cwSW 4 hts gL_law_L_lead rfl rfl rfl nL_lead ⟨Nat.le_of_ble_eq_true rfl, Nat.le_of_ble_eq_true rfl⟩) rfl hl.1 rfl (Nat.le_of_ble_eq_true rfl) dL_law_518 ⟨by show _ ≤ 601024; omega, by show _ ≤ 7293000; omega⟩ (fun h H locs hI => ?_)
  refine lv_istore (lv' := [(5, .int (xC r)), (0, .ref b), (1, .ref h0), (2, .ref m0), (3, .ref ho), (4, .int (nI i))]) hx hb dL_law_521 hl (by decide) rfl (fun ls hl => ?_)
  refine lv_aload_n hx hb dL_law_523 rfl (lv_at hl 3 rfl) ?_
  refine l_arg hx hb hX hbl hbA hI.2.2 (k := 1) (lv_at hl 1 rfl) (lv_at hl 5 rfl) (by decide) (by omega) hL dL_law_524 dL_law_525 dL_law_527 dL_law_528 dL_law_529 ?_
  refine l_arg hx hb hX hbl hbA hI.2.2 (k := 2) (lv_at hl 1 rfl) (lv_at hl 5 rfl) (by decide) (by omega) hL dL_law_530 dL_law_531 dL_law_533 dL_law_534 dL_law_535 ?_
  refine l_arg hx hb hX hbl hbA hI.2.2 (k := 3) (lv_at hl 1 rfl) (lv_at hl 5 rfl) (by decide) (by omega) hL dL_law_536 dL_law_537 dL_law_539 dL_law_540 dL_law_541 ?_
  refine lm_v S hK hA hI (As := [.int (xs (i + 1)), .int (xs (i + 2)), .int (xs (i + 3))]) (rest := []) (kX1_lead l G m0 mh H.size F μ (xs (i + 1)) (xs (i + 2)) (xs (i + 3)) μ1 f2) (cwV 3 hts gL_law_X1_lead rfl rfl rfl nX1_lead ⟨Nat.le_of_ble_eq_true rfl, Nat.le_of_ble_eq_true rfl⟩) rfl hl.1 rfl (Nat.le_of_ble_eq_true rfl) dL_law_542 ⟨by show _ ≤ 601024; omega, by show _ ≤ 7293000; omega⟩ (fun H locs hI => ?_)
  refine lv_aload_n hx hb dL_law_545 rfl (lv_at hl 3 rfl) ?_
  refine lm_i S hK hA hI (As := []) (rest := []) (kX1_thrown l G m0 mh H.size F μ1 (m_thrown μ1) μ1 rfl) (cwV 0 hts gL_law_X1_thrown rfl rfl rfl nX1_thrown ⟨Nat.le_of_ble_eq_true rfl, Nat.le_of_ble_eq_true rfl⟩) rfl hl.1 rfl (Nat.le_of_ble_eq_true rfl) dL_law_546 ⟨by show _ ≤ 601024; omega, by show _ ≤ 7293000; omega⟩ (fun H locs hI => ?_)
  refine lv_iload hx hb dL_law_549 (lv_at hl 0 rfl) ?_
  refine lv_icmp_eq (tgt := 556) hx hb dL_law_551 (by decide) (fun c1 => ?_) (fun c1 => absurd ft c1)
  refine lv_goto (tgt := 1506) hx hb dL_law_556 (by decide) ?_
  exact hK1 h σ1 μ1 fo M1 _ _ H locs ls hI hSm1 (by omega) (by omega) (by omega) (lv_sub hl [1, 2, 3, 4, 5] rfl)
set_option maxHeartbeats 4000000 in
set_option maxRecDepth 100000 in
theorem lk_number (hF : 1048600 < F) (X : LCx p l s m c b L xs A G) (hi : i + 5 ≤ L) (hj : j ≤ 511) (hK1 : KN p l e s m below meth c b A G h0 m0 ho mh Q 1506 i (j + 1)) : KN p l e s m below meth c b A G h0 m0 ho mh Q 559 i j := by
  intro h σ μ fo M Cc Nn H locs ls hI hSm hM hC hN hl
  obtain ⟨S, hK, hA, hbA, hZ, hNc, hX, hbl, hL, htr⟩ := X
  have hx := S.1
  have hb := S.2.1
  have hts := S.2.2.2.2
  have hown := S.2.2.2.1
  obtain ⟨r, σ1, C, N, μ1, f1, f2, ft, hk1, hAf⟩ := C_number (F := F) (xs (i + 1)) (xs (i + 2)) (((xs (i + 3)).toInt64 <<< ((32 : Int32).toInt64 &&& 63)) ||| ((xs (i + 4)).toInt64 &&& 4294967295)) hSm
  obtain ⟨⟨M1, hSm1, hm1, hm2⟩, hli, hC1, hN1⟩ := hAf
  have hpo := pot_le hSm1
  refine lv_aload_n hx hb dL_law_559 rfl (lv_at hl 1 rfl) ?_
  refine l_arg hx hb hX hbl hbA hI.2.2 (k := 1) (lv_at hl 0 rfl) (lv_at hl 4 rfl) (by decide) (by omega) hL dL_law_560 dL_law_561 dL_law_563 dL_law_564 dL_law_565 ?_
  refine l_arg hx hb hX hbl hbA hI.2.2 (k := 2) (lv_at hl 0 rfl) (lv_at hl 4 rfl) (by decide) (by omega) hL dL_law_566 dL_law_567 dL_law_569 dL_law_570 dL_law_571 ?_
  refine l_arg hx hb hX hbl hbA hI.2.2 (k := 3) (lv_at hl 0 rfl) (lv_at hl 4 rfl) (by decide) (by omega) hL dL_law_572 dL_law_573 dL_law_575 dL_law_576 dL_law_577 ?_
  refine lv_i2l (v := (xs (i + 3)).toInt64) hx hb dL_law_578 rfl ?_
  refine lv_bipush (v := 32) hx hb dL_law_579 (by decide) ?_
  refine lv_lshl (v := (xs (i + 3)).toInt64 <<< ((32 : Int32).toInt64 &&& 63)) hx hb dL_law_581 rfl ?_
  refine l_arg hx hb hX hbl hbA hI.2.2 (k := 4) (lv_at hl 0 rfl) (lv_at hl 4 rfl) (by decide) (by omega) hL dL_law_582 dL_law_583 dL_law_585 dL_law_586 dL_law_587 ?_
  refine lv_i2l (v := (xs (i + 4)).toInt64) hx hb dL_law_588 rfl ?_
  refine lv_ldc2 (v := 4294967295) hx hb hown (hts (.constantLong RL 129 4294967295) in129) dL_law_589 ?_
  refine lv_land hx hb dL_law_592 ?_
  refine lv_lor hx hb dL_law_593 ?_
  refine lc_s S hK hA hZ hNc hI (As := [.int (xs (i + 1)), .int (xs (i + 2)), .long (((xs (i + 3)).toInt64 <<< ((32 : Int32).toInt64 &&& 63)) ||| ((xs (i + 4)).toInt64 &&& 4294967295))]) (rest := []) (kL_number l htr G h0 h H.size F σ (xs (i + 1)) (xs (i + 2)) (((xs (i + 3)).toInt64 <<< ((32 : Int32).toInt64 &&& 63)) ||| ((xs (i + 4)).toInt64 &&& 4294967295)) r σ1 C N hk1 f1) (vx_cwSW 4 hts gL_law_L_number rfl rfl rfl nL_number ⟨Nat.le_of_ble_eq_true rfl, Nat.le_of_ble_eq_true rfl⟩) rfl hl.1 rfl (Nat.le_of_ble_eq_true rfl) dL_law_594 ⟨by show _ ≤ 601024; omega, by show _ ≤ 7293000; omega⟩ (fun h H locs hI => ?_)
  refine lv_istore (lv' := [(5, .int (xC r)), (0, .ref b), (1, .ref h0), (2, .ref m0), (3, .ref ho), (4, .int (nI i))]) hx hb dL_law_597 hl (by decide) rfl (fun ls hl => ?_)
  refine lv_aload_n hx hb dL_law_599 rfl (lv_at hl 3 rfl) ?_
  refine l_arg hx hb hX hbl hbA hI.2.2 (k := 1) (lv_at hl 1 rfl) (lv_at hl 5 rfl) (by decide) (by omega) hL dL_law_600 dL_law_601 dL_law_603 dL_law_604 dL_law_605 ?_
  refine l_arg hx hb hX hbl hbA hI.2.2 (k := 2) (lv_at hl 1 rfl) (lv_at hl 5 rfl) (by decide) (by omega) hL dL_law_606 dL_law_607 dL_law_609 dL_law_610 dL_law_611 ?_
  refine l_arg hx hb hX hbl hbA hI.2.2 (k := 3) (lv_at hl 1 rfl) (lv_at hl 5 rfl) (by decide) (by omega) hL dL_law_612 dL_law_613 dL_law_615 dL_law_616 dL_law_617 ?_
  refine lv_i2l (v := (xs (i + 3)).toInt64) hx hb dL_law_618 rfl ?_
  refine lv_bipush (v := 32) hx hb dL_law_619 (by decide) ?_
  refine lv_lshl (v := (xs (i + 3)).toInt64 <<< ((32 : Int32).toInt64 &&& 63)) hx hb dL_law_621 rfl ?_
  refine l_arg hx hb hX hbl hbA hI.2.2 (k := 4) (lv_at hl 1 rfl) (lv_at hl 5 rfl) (by decide) (by omega) hL dL_law_622 dL_law_623 dL_law_625 dL_law_626 dL_law_627 ?_
  refine lv_i2l (v := (xs (i + 4)).toInt64) hx hb dL_law_628 rfl ?_
  refine lv_ldc2 (v := 4294967295) hx hb hown (hts (.constantLong RL 129 4294967295) in129) dL_law_629 ?_
  refine lv_land hx hb dL_law_632 ?_
  refine lv_lor hx hb dL_law_633 ?_
  refine lm_v S hK hA hI (As := [.int (xs (i + 1)), .int (xs (i + 2)), .long (((xs (i + 3)).toInt64 <<< ((32 : Int32).toInt64 &&& 63)) ||| ((xs (i + 4)).toInt64 &&& 4294967295))]) (rest := []) (kX1_number l G m0 mh H.size F μ (xs (i + 1)) (xs (i + 2)) (((xs (i + 3)).toInt64 <<< ((32 : Int32).toInt64 &&& 63)) ||| ((xs (i + 4)).toInt64 &&& 4294967295)) μ1 f2) (cwV 3 hts gL_law_X1_number rfl rfl rfl nX1_number ⟨Nat.le_of_ble_eq_true rfl, Nat.le_of_ble_eq_true rfl⟩) rfl hl.1 rfl (Nat.le_of_ble_eq_true rfl) dL_law_634 ⟨by show _ ≤ 601024; omega, by show _ ≤ 7293000; omega⟩ (fun H locs hI => ?_)
  refine lv_aload_n hx hb dL_law_637 rfl (lv_at hl 3 rfl) ?_
  refine lm_i S hK hA hI (As := []) (rest := []) (kX1_thrown l G m0 mh H.size F μ1 (m_thrown μ1) μ1 rfl) (cwV 0 hts gL_law_X1_thrown rfl rfl rfl nX1_thrown ⟨Nat.le_of_ble_eq_true rfl, Nat.le_of_ble_eq_true rfl⟩) rfl hl.1 rfl (Nat.le_of_ble_eq_true rfl) dL_law_638 ⟨by show _ ≤ 601024; omega, by show _ ≤ 7293000; omega⟩ (fun H locs hI => ?_)
  refine lv_iload hx hb dL_law_641 (lv_at hl 0 rfl) ?_
  refine lv_icmp_eq (tgt := 648) hx hb dL_law_643 (by decide) (fun c1 => ?_) (fun c1 => absurd ft c1)
  refine lv_goto (tgt := 1506) hx hb dL_law_648 (by decide) ?_
  exact hK1 h σ1 μ1 fo M1 _ _ H locs ls hI hSm1 (by omega) (by omega) (by omega) (lv_sub hl [1, 2, 3, 4, 5] rfl)
set_option maxHeartbeats 4000000 in
set_option maxRecDepth 100000 in
theorem lk_refer (hF : 1048600 < F) (X : LCx p l s m c b L xs A G) (hi : i + 5 ≤ L) (hj : j ≤ 511) (hK1 : KN p l e s m below meth c b A G h0 m0 ho mh Q 1506 i (j + 1)) : KN p l e s m below meth c b A G h0 m0 ho mh Q 651 i j := by
  intro h σ μ fo M Cc Nn H locs ls hI hSm hM hC hN hl
  obtain ⟨S, hK, hA, hbA, hZ, hNc, hX, hbl, hL, htr⟩ := X
  have hx := S.1
  have hb := S.2.1
  have hts := S.2.2.2.2
  have hown := S.2.2.2.1
  obtain ⟨r, σ1, C, N, μ1, f1, f2, ft, hk1, hAf⟩ := C_refer (F := F) (xs (i + 1)) (xs (i + 2)) (xs (i + 3)) hSm
  obtain ⟨⟨M1, hSm1, hm1, hm2⟩, hli, hC1, hN1⟩ := hAf
  have hpo := pot_le hSm1
  refine lv_aload_n hx hb dL_law_651 rfl (lv_at hl 1 rfl) ?_
  refine l_arg hx hb hX hbl hbA hI.2.2 (k := 1) (lv_at hl 0 rfl) (lv_at hl 4 rfl) (by decide) (by omega) hL dL_law_652 dL_law_653 dL_law_655 dL_law_656 dL_law_657 ?_
  refine l_arg hx hb hX hbl hbA hI.2.2 (k := 2) (lv_at hl 0 rfl) (lv_at hl 4 rfl) (by decide) (by omega) hL dL_law_658 dL_law_659 dL_law_661 dL_law_662 dL_law_663 ?_
  refine l_arg hx hb hX hbl hbA hI.2.2 (k := 3) (lv_at hl 0 rfl) (lv_at hl 4 rfl) (by decide) (by omega) hL dL_law_664 dL_law_665 dL_law_667 dL_law_668 dL_law_669 ?_
  refine lc_s S hK hA hZ hNc hI (As := [.int (xs (i + 1)), .int (xs (i + 2)), .int (xs (i + 3))]) (rest := []) (kL_refer l htr G h0 h H.size F σ (xs (i + 1)) (xs (i + 2)) (xs (i + 3)) r σ1 C N hk1 f1) (vx_cwSW 4 hts gL_law_L_refer rfl rfl rfl nL_refer ⟨Nat.le_of_ble_eq_true rfl, Nat.le_of_ble_eq_true rfl⟩) rfl hl.1 rfl (Nat.le_of_ble_eq_true rfl) dL_law_670 ⟨by show _ ≤ 601024; omega, by show _ ≤ 7293000; omega⟩ (fun h H locs hI => ?_)
  refine lv_istore (lv' := [(5, .int (xC r)), (0, .ref b), (1, .ref h0), (2, .ref m0), (3, .ref ho), (4, .int (nI i))]) hx hb dL_law_673 hl (by decide) rfl (fun ls hl => ?_)
  refine lv_aload_n hx hb dL_law_675 rfl (lv_at hl 3 rfl) ?_
  refine l_arg hx hb hX hbl hbA hI.2.2 (k := 1) (lv_at hl 1 rfl) (lv_at hl 5 rfl) (by decide) (by omega) hL dL_law_676 dL_law_677 dL_law_679 dL_law_680 dL_law_681 ?_
  refine l_arg hx hb hX hbl hbA hI.2.2 (k := 2) (lv_at hl 1 rfl) (lv_at hl 5 rfl) (by decide) (by omega) hL dL_law_682 dL_law_683 dL_law_685 dL_law_686 dL_law_687 ?_
  refine l_arg hx hb hX hbl hbA hI.2.2 (k := 3) (lv_at hl 1 rfl) (lv_at hl 5 rfl) (by decide) (by omega) hL dL_law_688 dL_law_689 dL_law_691 dL_law_692 dL_law_693 ?_
  refine lm_v S hK hA hI (As := [.int (xs (i + 1)), .int (xs (i + 2)), .int (xs (i + 3))]) (rest := []) (kX1_refer l G m0 mh H.size F μ (xs (i + 1)) (xs (i + 2)) (xs (i + 3)) μ1 f2) (cwV 3 hts gL_law_X1_refer rfl rfl rfl nX1_refer ⟨Nat.le_of_ble_eq_true rfl, Nat.le_of_ble_eq_true rfl⟩) rfl hl.1 rfl (Nat.le_of_ble_eq_true rfl) dL_law_694 ⟨by show _ ≤ 601024; omega, by show _ ≤ 7293000; omega⟩ (fun H locs hI => ?_)
  refine lv_aload_n hx hb dL_law_697 rfl (lv_at hl 3 rfl) ?_
  refine lm_i S hK hA hI (As := []) (rest := []) (kX1_thrown l G m0 mh H.size F μ1 (m_thrown μ1) μ1 rfl) (cwV 0 hts gL_law_X1_thrown rfl rfl rfl nX1_thrown ⟨Nat.le_of_ble_eq_true rfl, Nat.le_of_ble_eq_true rfl⟩) rfl hl.1 rfl (Nat.le_of_ble_eq_true rfl) dL_law_698 ⟨by show _ ≤ 601024; omega, by show _ ≤ 7293000; omega⟩ (fun H locs hI => ?_)
  refine lv_iload hx hb dL_law_701 (lv_at hl 0 rfl) ?_
  refine lv_icmp_eq (tgt := 708) hx hb dL_law_703 (by decide) (fun c1 => ?_) (fun c1 => absurd ft c1)
  refine lv_goto (tgt := 1506) hx hb dL_law_708 (by decide) ?_
  exact hK1 h σ1 μ1 fo M1 _ _ H locs ls hI hSm1 (by omega) (by omega) (by omega) (lv_sub hl [1, 2, 3, 4, 5] rfl)
set_option maxHeartbeats 4000000 in
set_option maxRecDepth 100000 in
theorem lk_bits (hF : 1048600 < F) (X : LCx p l s m c b L xs A G) (hi : i + 5 ≤ L) (hj : j ≤ 511) (hK1 : KN p l e s m below meth c b A G h0 m0 ho mh Q 1506 i (j + 1)) : KN p l e s m below meth c b A G h0 m0 ho mh Q 711 i j := by
  intro h σ μ fo M Cc Nn H locs ls hI hSm hM hC hN hl
  obtain ⟨S, hK, hA, hbA, hZ, hNc, hX, hbl, hL, htr⟩ := X
  have hx := S.1
  have hb := S.2.1
  have hts := S.2.2.2.2
  have hown := S.2.2.2.1
  obtain ⟨r, σ1, C, N, a1, μ1, f1, f2, ft, hk1, hab, hAf⟩ := C_bits (F := F) (xs (i + 1)) (xs (i + 2)) hSm
  obtain ⟨⟨M1, hSm1, hm1, hm2⟩, hli, hC1, hN1⟩ := hAf
  have hpo := pot_le hSm1
  refine lv_aload_n hx hb dL_law_711 rfl (lv_at hl 1 rfl) ?_
  refine l_arg hx hb hX hbl hbA hI.2.2 (k := 1) (lv_at hl 0 rfl) (lv_at hl 4 rfl) (by decide) (by omega) hL dL_law_712 dL_law_713 dL_law_715 dL_law_716 dL_law_717 ?_
  refine l_arg hx hb hX hbl hbA hI.2.2 (k := 2) (lv_at hl 0 rfl) (lv_at hl 4 rfl) (by decide) (by omega) hL dL_law_718 dL_law_719 dL_law_721 dL_law_722 dL_law_723 ?_
  refine lv_aload_n hx hb dL_law_724 rfl (lv_at hl 3 rfl) ?_
  refine lc_o S hK hA hZ hNc hI (As := [.int (xs (i + 1)), .int (xs (i + 2)), .ref ho]) (rest := []) (kL_bits l htr G h0 h ho fo H.size F σ (xs (i + 1)) (xs (i + 2)) r σ1 C N hk1 f1) (vx_cwSW 4 hts gL_law_L_bits rfl rfl rfl nL_bits ⟨Nat.le_of_ble_eq_true rfl, Nat.le_of_ble_eq_true rfl⟩) rfl hl.1 rfl (Nat.le_of_ble_eq_true rfl) dL_law_725 ⟨by show _ ≤ 601024; omega, by show _ ≤ 7293000; omega⟩ (fun h H locs hI => ?_)
  refine lv_istore (lv' := [(5, .int (xC r)), (0, .ref b), (1, .ref h0), (2, .ref m0), (3, .ref ho), (4, .int (nI i))]) hx hb dL_law_728 hl (by decide) rfl (fun ls hl => ?_)
  refine lv_aload_n hx hb dL_law_730 rfl (lv_at hl 3 rfl) ?_
  refine l_arg hx hb hX hbl hbA hI.2.2 (k := 1) (lv_at hl 1 rfl) (lv_at hl 5 rfl) (by decide) (by omega) hL dL_law_731 dL_law_732 dL_law_734 dL_law_735 dL_law_736 ?_
  refine l_arg hx hb hX hbl hbA hI.2.2 (k := 2) (lv_at hl 1 rfl) (lv_at hl 5 rfl) (by decide) (by omega) hL dL_law_737 dL_law_738 dL_law_740 dL_law_741 dL_law_742 ?_
  refine lm_l S hK hA hI (As := [.int (xs (i + 1)), .int (xs (i + 2))]) (rest := []) (kX1_bits l G m0 mh H.size F μ (xs (i + 1)) (xs (i + 2)) a1 μ1 f2) (cwV 2 hts gL_law_X1_bits rfl rfl rfl nX1_bits ⟨Nat.le_of_ble_eq_true rfl, Nat.le_of_ble_eq_true rfl⟩) rfl hl.1 rfl (Nat.le_of_ble_eq_true rfl) dL_law_743 ⟨by show _ ≤ 601024; omega, by show _ ≤ 7293000; omega⟩ (fun H locs hI => ?_)
  refine lv_lstore (lv' := [(6, .long a1), (5, .int (xC r)), (0, .ref b), (1, .ref h0), (2, .ref m0), (3, .ref ho), (4, .int (nI i))]) hx hb dL_law_746 hl (by decide) rfl (fun ls hl => ?_)
  refine lv_aload_n hx hb dL_law_748 rfl (lv_at hl 4 rfl) ?_
  refine lm_i S hK hA hI (As := []) (rest := []) (kX1_thrown l G m0 mh H.size F μ1 (m_thrown μ1) μ1 rfl) (cwV 0 hts gL_law_X1_thrown rfl rfl rfl nX1_thrown ⟨Nat.le_of_ble_eq_true rfl, Nat.le_of_ble_eq_true rfl⟩) rfl hl.1 rfl (Nat.le_of_ble_eq_true rfl) dL_law_749 ⟨by show _ ≤ 601024; omega, by show _ ≤ 7293000; omega⟩ (fun H locs hI => ?_)
  refine lv_iload hx hb dL_law_752 (lv_at hl 1 rfl) ?_
  refine lv_icmp_eq (tgt := 759) hx hb dL_law_754 (by decide) (fun c1 => ?_) (fun c1 => absurd ft c1)
  refine lv_iload hx hb dL_law_759 (lv_at hl 1 rfl) ?_
  refine lv_if_ne (tgt := 775) hx hb dL_law_761 (by decide) (fun c2 => ?_) (fun c2 => ?_)
  · refine lv_goto (tgt := 1506) hx hb dL_law_775 (by decide) ?_
    exact hK1 h σ1 μ1 (oOut id r fo) M1 _ _ H locs ls hI hSm1 (by omega) (by omega) (by omega) (lv_sub hl [2, 3, 4, 5, 6] rfl)
  · refine lv_aload_n hx hb dL_law_764 rfl (lv_at hl 5 rfl) ?_
    refine lv_iconst (v := 0) hx hb dL_law_765 (by decide) ?_
    refine va_lald hx hb hK hI.1 23 1 rfl rfl (show vp_in (0 : Int32) 1 from vp_in_nI (n := 0) (by omega) (by omega)) dL_law_766 ?_
    refine lv_lload hx hb dL_law_767 (lv_at hl 0 rfl) ?_
    refine W.lcmp hx hb dL_law_769 ?_
    refine lv_if_eq (tgt := 775) hx hb dL_law_770 (by decide) (fun _ => ?_) (fun c9 => absurd (oOut_cmp c2 (fun a e => hab a e)) c9)
    refine lv_goto (tgt := 1506) hx hb dL_law_775 (by decide) ?_
    exact hK1 h σ1 μ1 (oOut id r fo) M1 _ _ H locs ls hI hSm1 (by omega) (by omega) (by omega) (lv_sub hl [2, 3, 4, 5, 6] rfl)
set_option maxHeartbeats 4000000 in
set_option maxRecDepth 100000 in
theorem lk_follow (hF : 1048600 < F) (X : LCx p l s m c b L xs A G) (hi : i + 5 ≤ L) (hj : j ≤ 511) (hK1 : KN p l e s m below meth c b A G h0 m0 ho mh Q 1506 i (j + 1)) : KN p l e s m below meth c b A G h0 m0 ho mh Q 778 i j := by
  intro h σ μ fo M Cc Nn H locs ls hI hSm hM hC hN hl
  obtain ⟨S, hK, hA, hbA, hZ, hNc, hX, hbl, hL, htr⟩ := X
  have hx := S.1
  have hb := S.2.1
  have hts := S.2.2.2.2
  have hown := S.2.2.2.1
  obtain ⟨r, σ1, C, N, a1, μ1, f1, f2, ft, hk1, hab, hAf⟩ := C_follow (F := F) (xs (i + 1)) (xs (i + 2)) (xs (i + 3)) hSm
  obtain ⟨⟨M1, hSm1, hm1, hm2⟩, hli, hC1, hN1⟩ := hAf
  have hpo := pot_le hSm1
  refine lv_aload_n hx hb dL_law_778 rfl (lv_at hl 1 rfl) ?_
  refine l_arg hx hb hX hbl hbA hI.2.2 (k := 1) (lv_at hl 0 rfl) (lv_at hl 4 rfl) (by decide) (by omega) hL dL_law_779 dL_law_780 dL_law_782 dL_law_783 dL_law_784 ?_
  refine l_arg hx hb hX hbl hbA hI.2.2 (k := 2) (lv_at hl 0 rfl) (lv_at hl 4 rfl) (by decide) (by omega) hL dL_law_785 dL_law_786 dL_law_788 dL_law_789 dL_law_790 ?_
  refine l_arg hx hb hX hbl hbA hI.2.2 (k := 3) (lv_at hl 0 rfl) (lv_at hl 4 rfl) (by decide) (by omega) hL dL_law_791 dL_law_792 dL_law_794 dL_law_795 dL_law_796 ?_
  refine lv_aload_n hx hb dL_law_797 rfl (lv_at hl 3 rfl) ?_
  refine lc_o S hK hA hZ hNc hI (As := [.int (xs (i + 1)), .int (xs (i + 2)), .int (xs (i + 3)), .ref ho]) (rest := []) (kL_follow l htr G h0 h ho fo H.size F σ (xs (i + 1)) (xs (i + 2)) (xs (i + 3)) r σ1 C N hk1 f1) (vx_cwSW 5 hts gL_law_L_follow rfl rfl rfl nL_follow ⟨Nat.le_of_ble_eq_true rfl, Nat.le_of_ble_eq_true rfl⟩) rfl hl.1 rfl (Nat.le_of_ble_eq_true rfl) dL_law_798 ⟨by show _ ≤ 601024; omega, by show _ ≤ 7293000; omega⟩ (fun h H locs hI => ?_)
  refine lv_istore (lv' := [(5, .int (xC r)), (0, .ref b), (1, .ref h0), (2, .ref m0), (3, .ref ho), (4, .int (nI i))]) hx hb dL_law_801 hl (by decide) rfl (fun ls hl => ?_)
  refine lv_aload_n hx hb dL_law_803 rfl (lv_at hl 3 rfl) ?_
  refine l_arg hx hb hX hbl hbA hI.2.2 (k := 1) (lv_at hl 1 rfl) (lv_at hl 5 rfl) (by decide) (by omega) hL dL_law_804 dL_law_805 dL_law_807 dL_law_808 dL_law_809 ?_
  refine l_arg hx hb hX hbl hbA hI.2.2 (k := 2) (lv_at hl 1 rfl) (lv_at hl 5 rfl) (by decide) (by omega) hL dL_law_810 dL_law_811 dL_law_813 dL_law_814 dL_law_815 ?_
  refine l_arg hx hb hX hbl hbA hI.2.2 (k := 3) (lv_at hl 1 rfl) (lv_at hl 5 rfl) (by decide) (by omega) hL dL_law_816 dL_law_817 dL_law_819 dL_law_820 dL_law_821 ?_
  refine lm_i S hK hA hI (As := [.int (xs (i + 1)), .int (xs (i + 2)), .int (xs (i + 3))]) (rest := []) (kX1_follow l G m0 mh H.size F μ (xs (i + 1)) (xs (i + 2)) (xs (i + 3)) a1 μ1 f2) (cwV 3 hts gL_law_X1_follow rfl rfl rfl nX1_follow ⟨Nat.le_of_ble_eq_true rfl, Nat.le_of_ble_eq_true rfl⟩) rfl hl.1 rfl (Nat.le_of_ble_eq_true rfl) dL_law_822 ⟨by show _ ≤ 601024; omega, by show _ ≤ 7293000; omega⟩ (fun H locs hI => ?_)
  refine lv_istore (lv' := [(6, .int a1), (5, .int (xC r)), (0, .ref b), (1, .ref h0), (2, .ref m0), (3, .ref ho), (4, .int (nI i))]) hx hb dL_law_825 hl (by decide) rfl (fun ls hl => ?_)
  refine lv_aload_n hx hb dL_law_827 rfl (lv_at hl 4 rfl) ?_
  refine lm_i S hK hA hI (As := []) (rest := []) (kX1_thrown l G m0 mh H.size F μ1 (m_thrown μ1) μ1 rfl) (cwV 0 hts gL_law_X1_thrown rfl rfl rfl nX1_thrown ⟨Nat.le_of_ble_eq_true rfl, Nat.le_of_ble_eq_true rfl⟩) rfl hl.1 rfl (Nat.le_of_ble_eq_true rfl) dL_law_828 ⟨by show _ ≤ 601024; omega, by show _ ≤ 7293000; omega⟩ (fun H locs hI => ?_)
  refine lv_iload hx hb dL_law_831 (lv_at hl 1 rfl) ?_
  refine lv_icmp_eq (tgt := 838) hx hb dL_law_833 (by decide) (fun c1 => ?_) (fun c1 => absurd ft c1)
  refine lv_iload hx hb dL_law_838 (lv_at hl 1 rfl) ?_
  refine lv_if_ne (tgt := 862) hx hb dL_law_840 (by decide) (fun c2 => ?_) (fun c2 => ?_)
  · refine lv_goto (tgt := 1506) hx hb dL_law_862 (by decide) ?_
    exact hK1 h σ1 μ1 (oOut zL r fo) M1 _ _ H locs ls hI hSm1 (by omega) (by omega) (by omega) (lv_sub hl [2, 3, 4, 5, 6] rfl)
  · refine lv_aload_n hx hb dL_law_843 rfl (lv_at hl 5 rfl) ?_
    refine lv_iconst (v := 0) hx hb dL_law_844 (by decide) ?_
    refine va_lald hx hb hK hI.1 23 1 rfl rfl (show vp_in (0 : Int32) 1 from vp_in_nI (n := 0) (by omega) (by omega)) dL_law_845 ?_
    refine lv_iload hx hb dL_law_846 (lv_at hl 0 rfl) ?_
    refine lv_if_eq (tgt := 855) hx hb dL_law_848 (by decide) (fun c3 => ?_) (fun c3 => ?_)
    · refine lv_lconst (v := 0) hx hb dL_law_855 (by decide) ?_
      refine W.lcmp hx hb dL_law_856 ?_
      refine lv_if_eq (tgt := 862) hx hb dL_law_857 (by decide) (fun _ => ?_) (fun c9 => absurd (oOut_cmp c2 (fun a e => by rw [hab a e]; exact cIf_t c3)) c9)
      refine lv_goto (tgt := 1506) hx hb dL_law_862 (by decide) ?_
      exact hK1 h σ1 μ1 (oOut zL r fo) M1 _ _ H locs ls hI hSm1 (by omega) (by omega) (by omega) (lv_sub hl [2, 3, 4, 5, 6] rfl)
    · refine lv_lconst (v := 1) hx hb dL_law_851 (by decide) ?_
      refine lv_goto (tgt := 856) hx hb dL_law_852 (by decide) ?_
      refine W.lcmp hx hb dL_law_856 ?_
      refine lv_if_eq (tgt := 862) hx hb dL_law_857 (by decide) (fun _ => ?_) (fun c9 => absurd (oOut_cmp c2 (fun a e => by rw [hab a e]; exact cIf_f c3)) c9)
      refine lv_goto (tgt := 1506) hx hb dL_law_862 (by decide) ?_
      exact hK1 h σ1 μ1 (oOut zL r fo) M1 _ _ H locs ls hI hSm1 (by omega) (by omega) (by omega) (lv_sub hl [2, 3, 4, 5, 6] rfl)
set_option maxHeartbeats 4000000 in
set_option maxRecDepth 100000 in
theorem lk_set (hF : 1048600 < F) (X : LCx p l s m c b L xs A G) (hi : i + 5 ≤ L) (hj : j ≤ 511) (hK1 : KN p l e s m below meth c b A G h0 m0 ho mh Q 1506 i (j + 1)) : KN p l e s m below meth c b A G h0 m0 ho mh Q 865 i j := by
  intro h σ μ fo M Cc Nn H locs ls hI hSm hM hC hN hl
  obtain ⟨S, hK, hA, hbA, hZ, hNc, hX, hbl, hL, htr⟩ := X
  have hx := S.1
  have hb := S.2.1
  have hts := S.2.2.2.2
  have hown := S.2.2.2.1
  obtain ⟨r, σ1, C, N, μ1, f1, f2, ft, hk1, hAf⟩ := C_set (F := F) (xs (i + 1)) (xs (i + 2)) (xs (i + 3)) hSm
  obtain ⟨⟨M1, hSm1, hm1, hm2⟩, hli, hC1, hN1⟩ := hAf
  have hpo := pot_le hSm1
  refine lv_aload_n hx hb dL_law_865 rfl (lv_at hl 1 rfl) ?_
  refine l_arg hx hb hX hbl hbA hI.2.2 (k := 1) (lv_at hl 0 rfl) (lv_at hl 4 rfl) (by decide) (by omega) hL dL_law_866 dL_law_867 dL_law_869 dL_law_870 dL_law_871 ?_
  refine l_arg hx hb hX hbl hbA hI.2.2 (k := 2) (lv_at hl 0 rfl) (lv_at hl 4 rfl) (by decide) (by omega) hL dL_law_872 dL_law_873 dL_law_875 dL_law_876 dL_law_877 ?_
  refine l_arg hx hb hX hbl hbA hI.2.2 (k := 3) (lv_at hl 0 rfl) (lv_at hl 4 rfl) (by decide) (by omega) hL dL_law_878 dL_law_879 dL_law_881 dL_law_882 dL_law_883 ?_
  refine lc_s S hK hA hZ hNc hI (As := [.int (xs (i + 1)), .int (xs (i + 2)), .int (xs (i + 3))]) (rest := []) (kL_set l htr G h0 h H.size F σ (xs (i + 1)) (xs (i + 2)) (xs (i + 3)) r σ1 C N hk1 f1) (vx_cwSW 4 hts gL_law_L_set rfl rfl rfl nL_set ⟨Nat.le_of_ble_eq_true rfl, Nat.le_of_ble_eq_true rfl⟩) rfl hl.1 rfl (Nat.le_of_ble_eq_true rfl) dL_law_884 ⟨by show _ ≤ 601024; omega, by show _ ≤ 7293000; omega⟩ (fun h H locs hI => ?_)
  refine lv_istore (lv' := [(5, .int (xC r)), (0, .ref b), (1, .ref h0), (2, .ref m0), (3, .ref ho), (4, .int (nI i))]) hx hb dL_law_887 hl (by decide) rfl (fun ls hl => ?_)
  refine lv_aload_n hx hb dL_law_889 rfl (lv_at hl 3 rfl) ?_
  refine l_arg hx hb hX hbl hbA hI.2.2 (k := 1) (lv_at hl 1 rfl) (lv_at hl 5 rfl) (by decide) (by omega) hL dL_law_890 dL_law_891 dL_law_893 dL_law_894 dL_law_895 ?_
  refine l_arg hx hb hX hbl hbA hI.2.2 (k := 2) (lv_at hl 1 rfl) (lv_at hl 5 rfl) (by decide) (by omega) hL dL_law_896 dL_law_897 dL_law_899 dL_law_900 dL_law_901 ?_
  refine l_arg hx hb hX hbl hbA hI.2.2 (k := 3) (lv_at hl 1 rfl) (lv_at hl 5 rfl) (by decide) (by omega) hL dL_law_902 dL_law_903 dL_law_905 dL_law_906 dL_law_907 ?_
  refine lm_v S hK hA hI (As := [.int (xs (i + 1)), .int (xs (i + 2)), .int (xs (i + 3))]) (rest := []) (kX1_set l G m0 mh H.size F μ (xs (i + 1)) (xs (i + 2)) (xs (i + 3)) μ1 f2) (cwV 3 hts gL_law_X1_set rfl rfl rfl nX1_set ⟨Nat.le_of_ble_eq_true rfl, Nat.le_of_ble_eq_true rfl⟩) rfl hl.1 rfl (Nat.le_of_ble_eq_true rfl) dL_law_908 ⟨by show _ ≤ 601024; omega, by show _ ≤ 7293000; omega⟩ (fun H locs hI => ?_)
  refine lv_aload_n hx hb dL_law_911 rfl (lv_at hl 3 rfl) ?_
  refine lm_i S hK hA hI (As := []) (rest := []) (kX1_thrown l G m0 mh H.size F μ1 (m_thrown μ1) μ1 rfl) (cwV 0 hts gL_law_X1_thrown rfl rfl rfl nX1_thrown ⟨Nat.le_of_ble_eq_true rfl, Nat.le_of_ble_eq_true rfl⟩) rfl hl.1 rfl (Nat.le_of_ble_eq_true rfl) dL_law_912 ⟨by show _ ≤ 601024; omega, by show _ ≤ 7293000; omega⟩ (fun H locs hI => ?_)
  refine lv_iload hx hb dL_law_915 (lv_at hl 0 rfl) ?_
  refine lv_icmp_eq (tgt := 922) hx hb dL_law_917 (by decide) (fun c1 => ?_) (fun c1 => absurd ft c1)
  refine lv_goto (tgt := 1506) hx hb dL_law_922 (by decide) ?_
  exact hK1 h σ1 μ1 fo M1 _ _ H locs ls hI hSm1 (by omega) (by omega) (by omega) (lv_sub hl [1, 2, 3, 4, 5] rfl)
end LK
