section LC
variable {p : Program} {l : Launch} {e : Env} {s : State} {m : MethodId} {below : List Frame} {meth : Method} {c : Code} {H : Heap} {locs : List Loc} {cells slots : Nat} {Q : State → Prop}
variable {b L i : Nat} {xs : Nat → Int32} {G : GG} {a ca : Nat → Nat} {h : Nat} {Y : va_W} {V : V_Fd} {M : V_Md} {ls : Array Slot}
set_option maxHeartbeats 4000000 in
set_option maxRecDepth 100000 in
theorem lc_flood (Z : CX p s m c b L xs G) (hI : ALL V M) (hs : SLS G h Y M) (hP : va_P G.1 vwCl (W_Fd G a h Y V ++ W_Md G ca M) H) (hD : va_D (AA s) (W_Fd G a h Y V ++ W_Md G ca M)) (hS : va_S (AA s) s.heap H locs) (hl : lv_has ls 4 [(0, .ref b), (1, .ref (a 0)), (2, .ref (ca 0)), (3, .int (nI i))]) (hi : i + 4 ≤ L) (hL : L ≤ 2048) (hf : cells + 20 ≤ room_1.cells ∧ slots + 2248 ≤ room_1.slots) (go : GO p l e s m below meth c b G a ca h ls cells slots Q) :
    W p l e room_1 s m #[Value.ref b] below meth c H locs cells slots Q (F0 m 292 ls []) := by
  obtain ⟨hx, hb, hml, hown, hts, hX, hbl, hK, hN⟩ := id Z
  have hf0 : cells ≤ room_1.cells ∧ slots ≤ room_1.slots := ⟨by have := hf.1; omega, by have := hf.2; omega⟩
  obtain ⟨r, V1, M1, e1, e2, hI1, g1, g2⟩ := cs_flood hI
  refine lv_aload_n hx hb d_law_292 rfl (lv_at hl 1 rfl) ?_
  refine kFd (index := 40) Z hP hD hS (t_Fd_flood l G a h Y V (r, V1) e1) m_Fd_flood k_435 ⟨Nat.le_of_ble_eq_true rfl, Nat.le_of_ble_eq_true rfl⟩ rfl rfl (Nat.le_of_ble_eq_true rfl) hl.1 d_law_293 hf0 (fun H locs hP hD hS => ?_)
  refine lv_aload_n hx hb d_law_296 rfl (lv_at hl 2 rfl) ?_
  refine kMd (index := 43) Z hP hD hS (t_Md_flood l G ca M (r, M1) e2) m_Md_flood k_893 ⟨Nat.le_of_ble_eq_true rfl, Nat.le_of_ble_eq_true rfl⟩ rfl rfl (Nat.le_of_ble_eq_true rfl) hl.1 d_law_297 hf0 (fun H locs hP hD hS => ?_)
  refine lv_icmp_eq (tgt := 696) hx hb d_law_300 (by decide) (fun _ => ?_) (fun z => absurd rfl z)
  refine W.widen (k := cells + 20) (n := slots + 2248) (Nat.le_add_right _ _) (Nat.le_add_right _ _) ?_
  exact go Y V1 M1 H locs hI1 (SLS_cg hs g1 g2) hP hD hS
set_option maxHeartbeats 4000000 in
set_option maxRecDepth 100000 in
theorem lc_blur (Z : CX p s m c b L xs G) (hI : ALL V M) (hs : SLS G h Y M) (hP : va_P G.1 vwCl (W_Fd G a h Y V ++ W_Md G ca M) H) (hD : va_D (AA s) (W_Fd G a h Y V ++ W_Md G ca M)) (hS : va_S (AA s) s.heap H locs) (hl : lv_has ls 4 [(0, .ref b), (1, .ref (a 0)), (2, .ref (ca 0)), (3, .int (nI i))]) (hi : i + 4 ≤ L) (hL : L ≤ 2048) (hf : cells + 20 ≤ room_1.cells ∧ slots + 2248 ≤ room_1.slots) (go : GO p l e s m below meth c b G a ca h ls cells slots Q) :
    W p l e room_1 s m #[Value.ref b] below meth c H locs cells slots Q (F0 m 305 ls []) := by
  obtain ⟨hx, hb, hml, hown, hts, hX, hbl, hK, hN⟩ := id Z
  have hf0 : cells ≤ room_1.cells ∧ slots ≤ room_1.slots := ⟨by have := hf.1; omega, by have := hf.2; omega⟩
  obtain ⟨r, V1, M1, e1, e2, hI1, g1, g2⟩ := cs_blur hI (xs (i + 1))
  refine lv_aload_n hx hb d_law_305 rfl (lv_at hl 1 rfl) ?_
  refine lw_ld (kk := 1) Z hS (lv_at hl 0 rfl) (lv_at hl 3 rfl) rfl (by omega) hL d_law_306 d_law_307 d_law_308 d_law_309 d_law_310 ?_
  refine kFd (index := 44) Z hP hD hS (t_Fd_blur l G a h Y (xs (i + 1)) V (r, V1) e1) m_Fd_blur k_473 ⟨Nat.le_of_ble_eq_true rfl, Nat.le_of_ble_eq_true rfl⟩ rfl rfl (Nat.le_of_ble_eq_true rfl) hl.1 d_law_311 hf0 (fun H locs hP hD hS => ?_)
  refine lv_aload_n hx hb d_law_314 rfl (lv_at hl 2 rfl) ?_
  refine lw_ld (kk := 1) Z hS (lv_at hl 0 rfl) (lv_at hl 3 rfl) rfl (by omega) hL d_law_315 d_law_316 d_law_317 d_law_318 d_law_319 ?_
  refine kMd (index := 47) Z hP hD hS (t_Md_blur l G ca (xs (i + 1)) M (r, M1) e2) m_Md_blur k_903 ⟨Nat.le_of_ble_eq_true rfl, Nat.le_of_ble_eq_true rfl⟩ rfl rfl (Nat.le_of_ble_eq_true rfl) hl.1 d_law_320 hf0 (fun H locs hP hD hS => ?_)
  refine lv_icmp_eq (tgt := 696) hx hb d_law_323 (by decide) (fun _ => ?_) (fun z => absurd rfl z)
  refine W.widen (k := cells + 20) (n := slots + 2248) (Nat.le_add_right _ _) (Nat.le_add_right _ _) ?_
  exact go Y V1 M1 H locs hI1 (SLS_cg hs g1 g2) hP hD hS
set_option maxHeartbeats 4000000 in
set_option maxRecDepth 100000 in
theorem lc_mend (Z : CX p s m c b L xs G) (hI : ALL V M) (hs : SLS G h Y M) (hP : va_P G.1 vwCl (W_Fd G a h Y V ++ W_Md G ca M) H) (hD : va_D (AA s) (W_Fd G a h Y V ++ W_Md G ca M)) (hS : va_S (AA s) s.heap H locs) (hl : lv_has ls 4 [(0, .ref b), (1, .ref (a 0)), (2, .ref (ca 0)), (3, .int (nI i))]) (hi : i + 4 ≤ L) (hL : L ≤ 2048) (hf : cells + 20 ≤ room_1.cells ∧ slots + 2248 ≤ room_1.slots) (go : GO p l e s m below meth c b G a ca h ls cells slots Q) :
    W p l e room_1 s m #[Value.ref b] below meth c H locs cells slots Q (F0 m 328 ls []) := by
  obtain ⟨hx, hb, hml, hown, hts, hX, hbl, hK, hN⟩ := id Z
  have hf0 : cells ≤ room_1.cells ∧ slots ≤ room_1.slots := ⟨by have := hf.1; omega, by have := hf.2; omega⟩
  obtain ⟨r, V1, M1, e1, e2, hI1, g1, g2⟩ := cs_mend hI (xs (i + 1))
  refine lv_aload_n hx hb d_law_328 rfl (lv_at hl 1 rfl) ?_
  refine lw_ld (kk := 1) Z hS (lv_at hl 0 rfl) (lv_at hl 3 rfl) rfl (by omega) hL d_law_329 d_law_330 d_law_331 d_law_332 d_law_333 ?_
  refine kFd (index := 48) Z hP hD hS (t_Fd_mend l G a h Y (xs (i + 1)) V (r, V1) e1) m_Fd_mend k_486 ⟨Nat.le_of_ble_eq_true rfl, Nat.le_of_ble_eq_true rfl⟩ rfl rfl (Nat.le_of_ble_eq_true rfl) hl.1 d_law_334 hf0 (fun H locs hP hD hS => ?_)
  refine lv_aload_n hx hb d_law_337 rfl (lv_at hl 2 rfl) ?_
  refine lw_ld (kk := 1) Z hS (lv_at hl 0 rfl) (lv_at hl 3 rfl) rfl (by omega) hL d_law_338 d_law_339 d_law_340 d_law_341 d_law_342 ?_
  refine kMd (index := 51) Z hP hD hS (t_Md_mend l G ca (xs (i + 1)) M (r, M1) e2) m_Md_mend k_908 ⟨Nat.le_of_ble_eq_true rfl, Nat.le_of_ble_eq_true rfl⟩ rfl rfl (Nat.le_of_ble_eq_true rfl) hl.1 d_law_343 hf0 (fun H locs hP hD hS => ?_)
  refine lv_icmp_eq (tgt := 696) hx hb d_law_346 (by decide) (fun _ => ?_) (fun z => absurd rfl z)
  refine W.widen (k := cells + 20) (n := slots + 2248) (Nat.le_add_right _ _) (Nat.le_add_right _ _) ?_
  exact go Y V1 M1 H locs hI1 (SLS_cg hs g1 g2) hP hD hS
set_option maxHeartbeats 4000000 in
set_option maxRecDepth 100000 in
theorem lc_ofPage (Z : CX p s m c b L xs G) (hI : ALL V M) (hs : SLS G h Y M) (hP : va_P G.1 vwCl (W_Fd G a h Y V ++ W_Md G ca M) H) (hD : va_D (AA s) (W_Fd G a h Y V ++ W_Md G ca M)) (hS : va_S (AA s) s.heap H locs) (hl : lv_has ls 4 [(0, .ref b), (1, .ref (a 0)), (2, .ref (ca 0)), (3, .int (nI i))]) (hi : i + 4 ≤ L) (hL : L ≤ 2048) (hf : cells + 20 ≤ room_1.cells ∧ slots + 2248 ≤ room_1.slots) (go : GO p l e s m below meth c b G a ca h ls cells slots Q) :
    W p l e room_1 s m #[Value.ref b] below meth c H locs cells slots Q (F0 m 351 ls []) := by
  obtain ⟨hx, hb, hml, hown, hts, hX, hbl, hK, hN⟩ := id Z
  have hf0 : cells ≤ room_1.cells ∧ slots ≤ room_1.slots := ⟨by have := hf.1; omega, by have := hf.2; omega⟩
  obtain ⟨r, e1, e2⟩ := cs_ofPage hI (xs (i + 1)) (xs (i + 2))
  refine lv_aload_n hx hb d_law_351 rfl (lv_at hl 1 rfl) ?_
  refine lw_ld (kk := 1) Z hS (lv_at hl 0 rfl) (lv_at hl 3 rfl) rfl (by omega) hL d_law_352 d_law_353 d_law_354 d_law_355 d_law_356 ?_
  refine lw_ld (kk := 2) Z hS (lv_at hl 0 rfl) (lv_at hl 3 rfl) rfl (by omega) hL d_law_357 d_law_358 d_law_359 d_law_360 d_law_361 ?_
  refine kFd (index := 52) Z hP hD hS (t_Fd_ofPage l G a h Y (xs (i + 1)) (xs (i + 2)) V r e1) m_Fd_ofPage k_518 ⟨Nat.le_of_ble_eq_true rfl, Nat.le_of_ble_eq_true rfl⟩ rfl rfl (Nat.le_of_ble_eq_true rfl) hl.1 d_law_362 hf0 (fun H locs hP hD hS => ?_)
  refine lv_aload_n hx hb d_law_365 rfl (lv_at hl 2 rfl) ?_
  refine lw_ld (kk := 1) Z hS (lv_at hl 0 rfl) (lv_at hl 3 rfl) rfl (by omega) hL d_law_366 d_law_367 d_law_368 d_law_369 d_law_370 ?_
  refine lw_ld (kk := 2) Z hS (lv_at hl 0 rfl) (lv_at hl 3 rfl) rfl (by omega) hL d_law_371 d_law_372 d_law_373 d_law_374 d_law_375 ?_
  refine kMd (index := 56) Z hP hD hS (t_Md_ofPage l G ca (xs (i + 1)) (xs (i + 2)) M r e2) m_Md_ofPage k_927 ⟨Nat.le_of_ble_eq_true rfl, Nat.le_of_ble_eq_true rfl⟩ rfl rfl (Nat.le_of_ble_eq_true rfl) hl.1 d_law_376 hf0 (fun H locs hP hD hS => ?_)
  refine lv_icmp_eq (tgt := 696) hx hb d_law_379 (by decide) (fun _ => ?_) (fun z => absurd rfl z)
  refine W.widen (k := cells + 20) (n := slots + 2248) (Nat.le_add_right _ _) (Nat.le_add_right _ _) ?_
  exact go Y V M H locs hI hs hP hD hS
set_option maxHeartbeats 4000000 in
set_option maxRecDepth 100000 in
theorem lc_ofWork (Z : CX p s m c b L xs G) (hI : ALL V M) (hs : SLS G h Y M) (hP : va_P G.1 vwCl (W_Fd G a h Y V ++ W_Md G ca M) H) (hD : va_D (AA s) (W_Fd G a h Y V ++ W_Md G ca M)) (hS : va_S (AA s) s.heap H locs) (hl : lv_has ls 4 [(0, .ref b), (1, .ref (a 0)), (2, .ref (ca 0)), (3, .int (nI i))]) (hi : i + 4 ≤ L) (hL : L ≤ 2048) (hf : cells + 20 ≤ room_1.cells ∧ slots + 2248 ≤ room_1.slots) (go : GO p l e s m below meth c b G a ca h ls cells slots Q) :
    W p l e room_1 s m #[Value.ref b] below meth c H locs cells slots Q (F0 m 384 ls []) := by
  obtain ⟨hx, hb, hml, hown, hts, hX, hbl, hK, hN⟩ := id Z
  have hf0 : cells ≤ room_1.cells ∧ slots ≤ room_1.slots := ⟨by have := hf.1; omega, by have := hf.2; omega⟩
  obtain ⟨r, e1, e2⟩ := cs_ofWork hI (xs (i + 1)) (xs (i + 2))
  refine lv_aload_n hx hb d_law_384 rfl (lv_at hl 1 rfl) ?_
  refine lw_ld (kk := 1) Z hS (lv_at hl 0 rfl) (lv_at hl 3 rfl) rfl (by omega) hL d_law_385 d_law_386 d_law_387 d_law_388 d_law_389 ?_
  refine lw_ld (kk := 2) Z hS (lv_at hl 0 rfl) (lv_at hl 3 rfl) rfl (by omega) hL d_law_390 d_law_391 d_law_392 d_law_393 d_law_394 ?_
  refine kFd (index := 57) Z hP hD hS (t_Fd_ofWork l G a h Y (xs (i + 1)) (xs (i + 2)) V r e1) m_Fd_ofWork k_541 ⟨Nat.le_of_ble_eq_true rfl, Nat.le_of_ble_eq_true rfl⟩ rfl rfl (Nat.le_of_ble_eq_true rfl) hl.1 d_law_395 hf0 (fun H locs hP hD hS => ?_)
  refine lv_aload_n hx hb d_law_398 rfl (lv_at hl 2 rfl) ?_
  refine lw_ld (kk := 1) Z hS (lv_at hl 0 rfl) (lv_at hl 3 rfl) rfl (by omega) hL d_law_399 d_law_400 d_law_401 d_law_402 d_law_403 ?_
  refine lw_ld (kk := 2) Z hS (lv_at hl 0 rfl) (lv_at hl 3 rfl) rfl (by omega) hL d_law_404 d_law_405 d_law_406 d_law_407 d_law_408 ?_
  refine kMd (index := 60) Z hP hD hS (t_Md_ofWork l G ca (xs (i + 1)) (xs (i + 2)) M r e2) m_Md_ofWork k_935 ⟨Nat.le_of_ble_eq_true rfl, Nat.le_of_ble_eq_true rfl⟩ rfl rfl (Nat.le_of_ble_eq_true rfl) hl.1 d_law_409 hf0 (fun H locs hP hD hS => ?_)
  refine lv_icmp_eq (tgt := 696) hx hb d_law_412 (by decide) (fun _ => ?_) (fun z => absurd rfl z)
  refine W.widen (k := cells + 20) (n := slots + 2248) (Nat.le_add_right _ _) (Nat.le_add_right _ _) ?_
  exact go Y V M H locs hI hs hP hD hS
set_option maxHeartbeats 4000000 in
set_option maxRecDepth 100000 in
theorem lc_ofEntry (Z : CX p s m c b L xs G) (hI : ALL V M) (hs : SLS G h Y M) (hP : va_P G.1 vwCl (W_Fd G a h Y V ++ W_Md G ca M) H) (hD : va_D (AA s) (W_Fd G a h Y V ++ W_Md G ca M)) (hS : va_S (AA s) s.heap H locs) (hl : lv_has ls 4 [(0, .ref b), (1, .ref (a 0)), (2, .ref (ca 0)), (3, .int (nI i))]) (hi : i + 4 ≤ L) (hL : L ≤ 2048) (hf : cells + 20 ≤ room_1.cells ∧ slots + 2248 ≤ room_1.slots) (go : GO p l e s m below meth c b G a ca h ls cells slots Q) :
    W p l e room_1 s m #[Value.ref b] below meth c H locs cells slots Q (F0 m 417 ls []) := by
  obtain ⟨hx, hb, hml, hown, hts, hX, hbl, hK, hN⟩ := id Z
  have hf0 : cells ≤ room_1.cells ∧ slots ≤ room_1.slots := ⟨by have := hf.1; omega, by have := hf.2; omega⟩
  obtain ⟨r, e1, e2⟩ := cs_ofEntry hI (xs (i + 1)) (xs (i + 2))
  refine lv_aload_n hx hb d_law_417 rfl (lv_at hl 1 rfl) ?_
  refine lw_ld (kk := 1) Z hS (lv_at hl 0 rfl) (lv_at hl 3 rfl) rfl (by omega) hL d_law_418 d_law_419 d_law_420 d_law_421 d_law_422 ?_
  refine lw_ld (kk := 2) Z hS (lv_at hl 0 rfl) (lv_at hl 3 rfl) rfl (by omega) hL d_law_423 d_law_424 d_law_425 d_law_426 d_law_427 ?_
  refine kFd (index := 61) Z hP hD hS (t_Fd_ofEntry l G a h Y (xs (i + 1)) (xs (i + 2)) V r e1) m_Fd_ofEntry k_549 ⟨Nat.le_of_ble_eq_true rfl, Nat.le_of_ble_eq_true rfl⟩ rfl rfl (Nat.le_of_ble_eq_true rfl) hl.1 d_law_428 hf0 (fun H locs hP hD hS => ?_)
  refine lv_aload_n hx hb d_law_431 rfl (lv_at hl 2 rfl) ?_
  refine lw_ld (kk := 1) Z hS (lv_at hl 0 rfl) (lv_at hl 3 rfl) rfl (by omega) hL d_law_432 d_law_433 d_law_434 d_law_435 d_law_436 ?_
  refine lw_ld (kk := 2) Z hS (lv_at hl 0 rfl) (lv_at hl 3 rfl) rfl (by omega) hL d_law_437 d_law_438 d_law_439 d_law_440 d_law_441 ?_
  refine kMd (index := 64) Z hP hD hS (t_Md_ofEntry l G ca (xs (i + 1)) (xs (i + 2)) M r e2) m_Md_ofEntry k_939 ⟨Nat.le_of_ble_eq_true rfl, Nat.le_of_ble_eq_true rfl⟩ rfl rfl (Nat.le_of_ble_eq_true rfl) hl.1 d_law_442 hf0 (fun H locs hP hD hS => ?_)
  refine lv_icmp_eq (tgt := 696) hx hb d_law_445 (by decide) (fun _ => ?_) (fun z => absurd rfl z)
  refine W.widen (k := cells + 20) (n := slots + 2248) (Nat.le_add_right _ _) (Nat.le_add_right _ _) ?_
  exact go Y V M H locs hI hs hP hD hS
end LC
