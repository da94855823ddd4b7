section LC
variable {p : Program} {l : Launch} {e : Env} {s : State} {m : MethodId} {below : List Frame} {meth : Method} {c : Code} {H : Heap} {locs : List Loc} {cells slots : Nat} {Q : State → Prop}
variable {b L i : Nat} {xs : Nat → Int32} {G : GG} {a ca : Nat → Nat} {h : Nat} {Y : va_W} {V : V_Fd} {M : V_Md} {ls : Array Slot}
set_option maxHeartbeats 4000000 in
set_option maxRecDepth 100000 in
theorem lc_count (Z : CX p s m c b L xs G) (hI : ALL V M) (hs : SLS G h Y M) (hP : va_P G.1 vwCl (W_Fd G a h Y V ++ W_Md G ca M) H) (hD : va_D (AA s) (W_Fd G a h Y V ++ W_Md G ca M)) (hS : va_S (AA s) s.heap H locs) (hl : lv_has ls 4 [(0, .ref b), (1, .ref (a 0)), (2, .ref (ca 0)), (3, .int (nI i))]) (hi : i + 4 ≤ L) (hL : L ≤ 2048) (hf : cells + 20 ≤ room_1.cells ∧ slots + 2248 ≤ room_1.slots) (go : GO p l e s m below meth c b G a ca h ls cells slots Q) :
    W p l e room_1 s m #[Value.ref b] below meth c H locs cells slots Q (F0 m 450 ls []) := by
  obtain ⟨hx, hb, hml, hown, hts, hX, hbl, hK, hN⟩ := id Z
  have hf0 : cells ≤ room_1.cells ∧ slots ≤ room_1.slots := ⟨by have := hf.1; omega, by have := hf.2; omega⟩
  obtain ⟨r, e1, e2⟩ := cs_count hI (xs (i + 1))
  refine lv_aload_n hx hb d_law_450 rfl (lv_at hl 1 rfl) ?_
  refine lw_ld (kk := 1) Z hS (lv_at hl 0 rfl) (lv_at hl 3 rfl) rfl (by omega) hL d_law_451 d_law_452 d_law_453 d_law_454 d_law_455 ?_
  refine kFd (index := 65) Z hP hD hS (t_Fd_count l G a h Y (xs (i + 1)) V r e1) m_Fd_count k_565 ⟨Nat.le_of_ble_eq_true rfl, Nat.le_of_ble_eq_true rfl⟩ rfl rfl (Nat.le_of_ble_eq_true rfl) hl.1 d_law_456 hf0 (fun H locs hP hD hS => ?_)
  refine lv_aload_n hx hb d_law_459 rfl (lv_at hl 2 rfl) ?_
  refine lw_ld (kk := 1) Z hS (lv_at hl 0 rfl) (lv_at hl 3 rfl) rfl (by omega) hL d_law_460 d_law_461 d_law_462 d_law_463 d_law_464 ?_
  refine kMd (index := 68) Z hP hD hS (t_Md_count l G ca (xs (i + 1)) M r e2) m_Md_count k_943 ⟨Nat.le_of_ble_eq_true rfl, Nat.le_of_ble_eq_true rfl⟩ rfl rfl (Nat.le_of_ble_eq_true rfl) hl.1 d_law_465 hf0 (fun H locs hP hD hS => ?_)
  refine lv_icmp_eq (tgt := 696) hx hb d_law_468 (by decide) (fun _ => ?_) (fun z => absurd rfl z)
  refine W.widen (k := cells + 20) (n := slots + 2248) (Nat.le_add_right _ _) (Nat.le_add_right _ _) ?_
  exact go Y V M H locs hI hs hP hD hS
set_option maxHeartbeats 4000000 in
set_option maxRecDepth 100000 in
theorem lc_stepsToMend (Z : CX p s m c b L xs G) (hI : ALL V M) (hs : SLS G h Y M) (hP : va_P G.1 vwCl (W_Fd G a h Y V ++ W_Md G ca M) H) (hD : va_D (AA s) (W_Fd G a h Y V ++ W_Md G ca M)) (hS : va_S (AA s) s.heap H locs) (hl : lv_has ls 4 [(0, .ref b), (1, .ref (a 0)), (2, .ref (ca 0)), (3, .int (nI i))]) (hi : i + 4 ≤ L) (hL : L ≤ 2048) (hf : cells + 20 ≤ room_1.cells ∧ slots + 2248 ≤ room_1.slots) (go : GO p l e s m below meth c b G a ca h ls cells slots Q) :
    W p l e room_1 s m #[Value.ref b] below meth c H locs cells slots Q (F0 m 473 ls []) := by
  obtain ⟨hx, hb, hml, hown, hts, hX, hbl, hK, hN⟩ := id Z
  have hf0 : cells ≤ room_1.cells ∧ slots ≤ room_1.slots := ⟨by have := hf.1; omega, by have := hf.2; omega⟩
  obtain ⟨r, V1, M1, e1, e2, hI1, g1, g2⟩ := cs_stepsToMend hI
  refine lv_aload_n hx hb d_law_473 rfl (lv_at hl 1 rfl) ?_
  refine kFd (index := 69) Z hP hD hS (t_Fd_stepsToMend l G a h Y V (r, V1) e1) m_Fd_stepsToMend k_590 ⟨Nat.le_of_ble_eq_true rfl, Nat.le_of_ble_eq_true rfl⟩ rfl rfl (Nat.le_of_ble_eq_true rfl) hl.1 d_law_474 hf0 (fun H locs hP hD hS => ?_)
  refine lv_aload_n hx hb d_law_477 rfl (lv_at hl 2 rfl) ?_
  refine kMd (index := 72) Z hP hD hS (t_Md_stepsToMend l G ca M (r, M1) e2) m_Md_stepsToMend k_947 ⟨Nat.le_of_ble_eq_true rfl, Nat.le_of_ble_eq_true rfl⟩ rfl rfl (Nat.le_of_ble_eq_true rfl) hl.1 d_law_478 hf0 (fun H locs hP hD hS => ?_)
  refine lv_icmp_eq (tgt := 696) hx hb d_law_481 (by decide) (fun _ => ?_) (fun z => absurd rfl z)
  refine W.widen (k := cells + 20) (n := slots + 2248) (Nat.le_add_right _ _) (Nat.le_add_right _ _) ?_
  exact go Y V1 M1 H locs hI1 (SLS_cg hs g1 g2) hP hD hS
set_option maxHeartbeats 4000000 in
set_option maxRecDepth 100000 in
theorem lc_wouldBe (Z : CX p s m c b L xs G) (hI : ALL V M) (hs : SLS G h Y M) (hP : va_P G.1 vwCl (W_Fd G a h Y V ++ W_Md G ca M) H) (hD : va_D (AA s) (W_Fd G a h Y V ++ W_Md G ca M)) (hS : va_S (AA s) s.heap H locs) (hl : lv_has ls 4 [(0, .ref b), (1, .ref (a 0)), (2, .ref (ca 0)), (3, .int (nI i))]) (hi : i + 4 ≤ L) (hL : L ≤ 2048) (hf : cells + 20 ≤ room_1.cells ∧ slots + 2248 ≤ room_1.slots) (go : GO p l e s m below meth c b G a ca h ls cells slots Q) :
    W p l e room_1 s m #[Value.ref b] below meth c H locs cells slots Q (F0 m 486 ls []) := by
  obtain ⟨hx, hb, hml, hown, hts, hX, hbl, hK, hN⟩ := id Z
  have hf0 : cells ≤ room_1.cells ∧ slots ≤ room_1.slots := ⟨by have := hf.1; omega, by have := hf.2; omega⟩
  obtain ⟨r, V1, M1, e1, e2, hI1, g1, g2⟩ := cs_wouldBe hI (xs (i + 1))
  refine lv_aload_n hx hb d_law_486 rfl (lv_at hl 1 rfl) ?_
  refine lw_ld (kk := 1) Z hS (lv_at hl 0 rfl) (lv_at hl 3 rfl) rfl (by omega) hL d_law_487 d_law_488 d_law_489 d_law_490 d_law_491 ?_
  refine kFd (index := 73) Z hP hD hS (t_Fd_wouldBe l G a h Y (xs (i + 1)) V (r, V1) e1) m_Fd_wouldBe k_599 ⟨Nat.le_of_ble_eq_true rfl, Nat.le_of_ble_eq_true rfl⟩ rfl rfl (Nat.le_of_ble_eq_true rfl) hl.1 d_law_492 hf0 (fun H locs hP hD hS => ?_)
  refine lv_aload_n hx hb d_law_495 rfl (lv_at hl 2 rfl) ?_
  refine lw_ld (kk := 1) Z hS (lv_at hl 0 rfl) (lv_at hl 3 rfl) rfl (by omega) hL d_law_496 d_law_497 d_law_498 d_law_499 d_law_500 ?_
  refine kMd (index := 76) Z hP hD hS (t_Md_wouldBe l G ca (xs (i + 1)) M (r, M1) e2) m_Md_wouldBe k_955 ⟨Nat.le_of_ble_eq_true rfl, Nat.le_of_ble_eq_true rfl⟩ rfl rfl (Nat.le_of_ble_eq_true rfl) hl.1 d_law_501 hf0 (fun H locs hP hD hS => ?_)
  refine lv_icmp_eq (tgt := 696) hx hb d_law_504 (by decide) (fun _ => ?_) (fun z => absurd rfl z)
  refine W.widen (k := cells + 20) (n := slots + 2248) (Nat.le_add_right _ _) (Nat.le_add_right _ _) ?_
  exact go Y V1 M1 H locs hI1 (SLS_cg hs g1 g2) hP hD hS
set_option maxHeartbeats 4000000 in
set_option maxRecDepth 100000 in
theorem lc_firstNeeded (Z : CX p s m c b L xs G) (hI : ALL V M) (hs : SLS G h Y M) (hP : va_P G.1 vwCl (W_Fd G a h Y V ++ W_Md G ca M) H) (hD : va_D (AA s) (W_Fd G a h Y V ++ W_Md G ca M)) (hS : va_S (AA s) s.heap H locs) (hl : lv_has ls 4 [(0, .ref b), (1, .ref (a 0)), (2, .ref (ca 0)), (3, .int (nI i))]) (hi : i + 4 ≤ L) (hL : L ≤ 2048) (hf : cells + 20 ≤ room_1.cells ∧ slots + 2248 ≤ room_1.slots) (go : GO p l e s m below meth c b G a ca h ls cells slots Q) :
    W p l e room_1 s m #[Value.ref b] below meth c H locs cells slots Q (F0 m 509 ls []) := by
  obtain ⟨hx, hb, hml, hown, hts, hX, hbl, hK, hN⟩ := id Z
  have hf0 : cells ≤ room_1.cells ∧ slots ≤ room_1.slots := ⟨by have := hf.1; omega, by have := hf.2; omega⟩
  obtain ⟨r, e1, e2⟩ := cs_firstNeeded hI
  refine lv_aload_n hx hb d_law_509 rfl (lv_at hl 1 rfl) ?_
  refine kFd (index := 77) Z hP hD hS (t_Fd_firstNeeded l G a h Y V r e1) m_Fd_firstNeeded k_606 ⟨Nat.le_of_ble_eq_true rfl, Nat.le_of_ble_eq_true rfl⟩ rfl rfl (Nat.le_of_ble_eq_true rfl) hl.1 d_law_510 hf0 (fun H locs hP hD hS => ?_)
  refine lv_aload_n hx hb d_law_513 rfl (lv_at hl 2 rfl) ?_
  refine kMd (index := 80) Z hP hD hS (t_Md_firstNeeded l G ca M r e2) m_Md_firstNeeded k_962 ⟨Nat.le_of_ble_eq_true rfl, Nat.le_of_ble_eq_true rfl⟩ rfl rfl (Nat.le_of_ble_eq_true rfl) hl.1 d_law_514 hf0 (fun H locs hP hD hS => ?_)
  refine lv_icmp_eq (tgt := 696) hx hb d_law_517 (by decide) (fun _ => ?_) (fun z => absurd rfl z)
  refine W.widen (k := cells + 20) (n := slots + 2248) (Nat.le_add_right _ _) (Nat.le_add_right _ _) ?_
  exact go Y V M H locs hI hs hP hD hS
set_option maxHeartbeats 4000000 in
set_option maxRecDepth 100000 in
theorem lc_settled (Z : CX p s m c b L xs G) (hI : ALL V M) (hs : SLS G h Y M) (hP : va_P G.1 vwCl (W_Fd G a h Y V ++ W_Md G ca M) H) (hD : va_D (AA s) (W_Fd G a h Y V ++ W_Md G ca M)) (hS : va_S (AA s) s.heap H locs) (hl : lv_has ls 4 [(0, .ref b), (1, .ref (a 0)), (2, .ref (ca 0)), (3, .int (nI i))]) (hi : i + 4 ≤ L) (hL : L ≤ 2048) (hf : cells + 20 ≤ room_1.cells ∧ slots + 2248 ≤ room_1.slots) (go : GO p l e s m below meth c b G a ca h ls cells slots Q) :
    W p l e room_1 s m #[Value.ref b] below meth c H locs cells slots Q (F0 m 522 ls []) := by
  obtain ⟨hx, hb, hml, hown, hts, hX, hbl, hK, hN⟩ := id Z
  have hf0 : cells ≤ room_1.cells ∧ slots ≤ room_1.slots := ⟨by have := hf.1; omega, by have := hf.2; omega⟩
  obtain ⟨r, V1, e1, e2, hI1⟩ := cs_settled hI (xs (i + 1))
  refine lv_aload_n hx hb d_law_522 rfl (lv_at hl 1 rfl) ?_
  refine lw_ld (kk := 1) Z hS (lv_at hl 0 rfl) (lv_at hl 3 rfl) rfl (by omega) hL d_law_523 d_law_524 d_law_525 d_law_526 d_law_527 ?_
  refine kFd (index := 81) Z hP hD hS (t_Fd_settled l G a h Y (xs (i + 1)) V (r, V1) e1) m_Fd_settled k_623 ⟨Nat.le_of_ble_eq_true rfl, Nat.le_of_ble_eq_true rfl⟩ rfl rfl (Nat.le_of_ble_eq_true rfl) hl.1 d_law_528 hf0 (fun H locs hP hD hS => ?_)
  refine lv_aload_n hx hb d_law_531 rfl (lv_at hl 2 rfl) ?_
  refine lw_ld (kk := 1) Z hS (lv_at hl 0 rfl) (lv_at hl 3 rfl) rfl (by omega) hL d_law_532 d_law_533 d_law_534 d_law_535 d_law_536 ?_
  refine kMd (index := 84) Z hP hD hS (t_Md_settled l G ca (xs (i + 1)) M r e2) m_Md_settled k_970 ⟨Nat.le_of_ble_eq_true rfl, Nat.le_of_ble_eq_true rfl⟩ rfl rfl (Nat.le_of_ble_eq_true rfl) hl.1 d_law_537 hf0 (fun H locs hP hD hS => ?_)
  refine lv_icmp_eq (tgt := 696) hx hb d_law_540 (by decide) (fun _ => ?_) (fun z => absurd rfl z)
  refine W.widen (k := cells + 20) (n := slots + 2248) (Nat.le_add_right _ _) (Nat.le_add_right _ _) ?_
  exact go Y V1 M H locs hI1 hs hP hD hS
set_option maxHeartbeats 4000000 in
set_option maxRecDepth 100000 in
theorem lc_put (Z : CX p s m c b L xs G) (hI : ALL V M) (hs : SLS G h Y M) (hP : va_P G.1 vwCl (W_Fd G a h Y V ++ W_Md G ca M) H) (hD : va_D (AA s) (W_Fd G a h Y V ++ W_Md G ca M)) (hS : va_S (AA s) s.heap H locs) (hl : lv_has ls 4 [(0, .ref b), (1, .ref (a 0)), (2, .ref (ca 0)), (3, .int (nI i))]) (hi : i + 4 ≤ L) (hL : L ≤ 2048) (hf : cells + 20 ≤ room_1.cells ∧ slots + 2248 ≤ room_1.slots) (go : GO p l e s m below meth c b G a ca h ls cells slots Q) :
    W p l e room_1 s m #[Value.ref b] below meth c H locs cells slots Q (F0 m 545 ls []) := by
  obtain ⟨hx, hb, hml, hown, hts, hX, hbl, hK, hN⟩ := id Z
  have hf0 : cells ≤ room_1.cells ∧ slots ≤ room_1.slots := ⟨by have := hf.1; omega, by have := hf.2; omega⟩
  obtain ⟨r, V1, M1, e1, e2, hI1, g1, g2⟩ := cs_put hI ((xs (i + 1)).toInt64 <<< ((32 : Int32).toInt64 &&& 63) ||| ((xs (i + 2)).toInt64 &&& 4294967295))
  refine lv_aload_n hx hb d_law_545 rfl (lv_at hl 1 rfl) ?_
  refine lw_ld (kk := 1) Z hS (lv_at hl 0 rfl) (lv_at hl 3 rfl) rfl (by omega) hL d_law_546 d_law_547 d_law_548 d_law_549 d_law_550 ?_
  refine lv_i2l hx hb d_law_551 rfl ?_
  refine lv_bipush (v := 32) hx hb d_law_552 (by decide) ?_
  refine lv_lshl hx hb d_law_554 rfl ?_
  refine lw_ld (kk := 2) Z hS (lv_at hl 0 rfl) (lv_at hl 3 rfl) rfl (by omega) hL d_law_555 d_law_556 d_law_557 d_law_558 d_law_559 ?_
  refine lv_i2l hx hb d_law_560 rfl ?_
  refine lv_ldc2 (v := 4294967295) hx hb hown (hts _ k_1028) d_law_561 ?_
  refine lv_land hx hb d_law_564 ?_
  refine lv_lor hx hb d_law_565 ?_
  refine kFd (index := 87) Z hP hD hS (t_Fd_put l G a h Y ((xs (i + 1)).toInt64 <<< ((32 : Int32).toInt64 &&& 63) ||| ((xs (i + 2)).toInt64 &&& 4294967295)) V (r, V1) e1) m_Fd_put k_631 ⟨Nat.le_of_ble_eq_true rfl, Nat.le_of_ble_eq_true rfl⟩ rfl rfl (Nat.le_of_ble_eq_true rfl) hl.1 d_law_566 hf0 (fun H locs hP hD hS => ?_)
  refine lv_aload_n hx hb d_law_569 rfl (lv_at hl 2 rfl) ?_
  refine lw_ld (kk := 1) Z hS (lv_at hl 0 rfl) (lv_at hl 3 rfl) rfl (by omega) hL d_law_570 d_law_571 d_law_572 d_law_573 d_law_574 ?_
  refine lv_i2l hx hb d_law_575 rfl ?_
  refine lv_bipush (v := 32) hx hb d_law_576 (by decide) ?_
  refine lv_lshl hx hb d_law_578 rfl ?_
  refine lw_ld (kk := 2) Z hS (lv_at hl 0 rfl) (lv_at hl 3 rfl) rfl (by omega) hL d_law_579 d_law_580 d_law_581 d_law_582 d_law_583 ?_
  refine lv_i2l hx hb d_law_584 rfl ?_
  refine lv_ldc2 (v := 4294967295) hx hb hown (hts _ k_1028) d_law_585 ?_
  refine lv_land hx hb d_law_588 ?_
  refine lv_lor hx hb d_law_589 ?_
  refine kMd (index := 91) Z hP hD hS (t_Md_put l G ca ((xs (i + 1)).toInt64 <<< ((32 : Int32).toInt64 &&& 63) ||| ((xs (i + 2)).toInt64 &&& 4294967295)) M (r, M1) e2) m_Md_put k_974 ⟨Nat.le_of_ble_eq_true rfl, Nat.le_of_ble_eq_true rfl⟩ rfl rfl (Nat.le_of_ble_eq_true rfl) hl.1 d_law_590 hf0 (fun H locs hP hD hS => ?_)
  refine lv_icmp_eq (tgt := 696) hx hb d_law_593 (by decide) (fun _ => ?_) (fun z => absurd rfl z)
  refine W.widen (k := cells + 20) (n := slots + 2248) (Nat.le_add_right _ _) (Nat.le_add_right _ _) ?_
  exact go Y V1 M1 H locs hI1 (SLS_cg hs g1 g2) hP hD hS
end LC
