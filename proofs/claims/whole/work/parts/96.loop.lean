/-! ===== the law's loop ===== -/
theorem lw_cond {L i : Nat} (hL : L ≤ 2048) (hi : i < 100000) (h : ¬ (nI L - (4 : Int32) < nI i)) : i + 4 ≤ L := by
  by_cases q : 4 ≤ L
  · rw [k4, i_sub q] at h
    by_cases z : L - 4 < i
    · exact absurd (nI_lt z (by omega)) h
    · omega
  · have hn : ∀ n : Nat, n < 4 → nI n - (4 : Int32) < 0 := by decide +kernel
    exact absurd (i_neg_lt (hn L (by omega)) (by omega)) h
section LB
variable {p : Program} {l : Launch} {e : Env} {s : State} {m : MethodId} {below : List Frame} {meth : Method} {c : Code} {H : Heap} {locs : List Loc} {cells slots : Nat} {Q : State → Prop}
variable {b L i : Nat} {xs : Nat → Int32} {G : GG} {a ca : Nat → Nat} {h : Nat} {Y : va_W} {V : V_Fd} {M : V_Md} {ls : Array Slot}
set_option maxHeartbeats 4000000 in
set_option maxRecDepth 100000 in
theorem law_body (Z : CX p s m c b L xs G) (hI : ALL V M) (hs : SLS G h Y M) (hP : va_P G.1 vwCl (W_Fd G a h Y V ++ W_Md G ca M) H) (hD : va_D (AA s) (W_Fd G a h Y V ++ W_Md G ca M)) (hS : va_S (AA s) s.heap H locs) (hl : lv_has ls 4 [(0, .ref b), (1, .ref (a 0)), (2, .ref (ca 0)), (3, .int (nI i))]) (hi : i + 4 ≤ L) (hL : L ≤ 2048) (hf : cells + 20 ≤ room_1.cells ∧ slots + 2248 ≤ room_1.slots) (go : GO p l e s m below meth c b G a ca h ls cells slots Q) :
    W p l e room_1 s m #[Value.ref b] below meth c H locs cells slots Q (F0 m 26 ls []) := by
  obtain ⟨hx, hb, hml, hown, hts, hX, hbl, hK, hN⟩ := id Z
  refine lv_aload_n hx hb d_law_26 rfl (lv_at hl 0 rfl) ?_
  refine lv_iload_n hx hb d_law_27 rfl (lv_at hl 3 rfl) ?_
  refine va_sld hx hb hX hbl (A := AA s) (Nat.not_le.mpr hbl) hS (vp_in_nI (show i < L by omega) (by omega)) d_law_28 ?_
  refine lv_bipush (v := 31) hx hb d_law_29 (by decide) ?_
  refine lv_iand hx hb d_law_31 ?_
  obtain ⟨j, hj, ej⟩ := r_and31 (xs (nI i).toNatClampNeg)
  rw [ej]
  by_cases h24 : 24 ≤ j
  · refine lv_tableOut (tgt := 696) hx hb d_law_32 (Or.inr ?_) (by decide) ?_
    · rw [i_tI (by omega)]
      omega
    · refine W.widen (k := cells + 20) (n := slots + 2248) (Nat.le_add_right _ _) (Nat.le_add_right _ _) ?_
      exact go Y V M H locs hI hs hP hD hS
  · have hc : j = 0 ∨ j = 1 ∨ j = 2 ∨ j = 3 ∨ j = 4 ∨ j = 5 ∨ j = 6 ∨ j = 7 ∨ j = 8 ∨ j = 9 ∨ j = 10 ∨ j = 11 ∨ j = 12 ∨ j = 13 ∨ j = 14 ∨ j = 15 ∨ j = 16 ∨ j = 17 ∨ j = 18 ∨ j = 19 ∨ j = 20 ∨ j = 21 ∨ j = 22 ∨ j = 23 := by omega
    rcases hc with rfl | rfl | rfl | rfl | rfl | rfl | rfl | rfl | rfl | rfl | rfl | rfl | rfl | rfl | rfl | rfl | rfl | rfl | rfl | rfl | rfl | rfl | rfl | rfl
    · refine lv_tableIn (off := 112) (tgt := 144) hx hb d_law_32 (by decide) (by decide) (by decide) (by decide) ?_
      exact lc_begin Z hI hs hP hD hS hl hi hL hf go
    · refine lv_tableIn (off := 125) (tgt := 157) hx hb d_law_32 (by decide) (by decide) (by decide) (by decide) ?_
      exact lc_write Z hI hs hP hD hS hl hi hL hf go
    · refine lv_tableIn (off := 168) (tgt := 200) hx hb d_law_32 (by decide) (by decide) (by decide) (by decide) ?_
      exact lc_finish Z hI hs hP hD hS hl hi hL hf go
    · refine lv_tableIn (off := 191) (tgt := 223) hx hb d_law_32 (by decide) (by decide) (by decide) (by decide) ?_
      exact lc_tear Z hI hs hP hD hS hl hi hL hf go
    · refine lv_tableIn (off := 214) (tgt := 246) hx hb d_law_32 (by decide) (by decide) (by decide) (by decide) ?_
      exact lc_save Z hI hs hP hD hS hl hi hL hf go
    · refine lv_tableIn (off := 237) (tgt := 269) hx hb d_law_32 (by decide) (by decide) (by decide) (by decide) ?_
      exact lc_putAway Z hI hs hP hD hS hl hi hL hf go
    · refine lv_tableIn (off := 260) (tgt := 292) hx hb d_law_32 (by decide) (by decide) (by decide) (by decide) ?_
      exact lc_flood Z hI hs hP hD hS hl hi hL hf go
    · refine lv_tableIn (off := 273) (tgt := 305) hx hb d_law_32 (by decide) (by decide) (by decide) (by decide) ?_
      exact lc_blur Z hI hs hP hD hS hl hi hL hf go
    · refine lv_tableIn (off := 296) (tgt := 328) hx hb d_law_32 (by decide) (by decide) (by decide) (by decide) ?_
      exact lc_mend Z hI hs hP hD hS hl hi hL hf go
    · refine lv_tableIn (off := 319) (tgt := 351) hx hb d_law_32 (by decide) (by decide) (by decide) (by decide) ?_
      exact lc_ofPage Z hI hs hP hD hS hl hi hL hf go
    · refine lv_tableIn (off := 352) (tgt := 384) hx hb d_law_32 (by decide) (by decide) (by decide) (by decide) ?_
      exact lc_ofWork Z hI hs hP hD hS hl hi hL hf go
    · refine lv_tableIn (off := 385) (tgt := 417) hx hb d_law_32 (by decide) (by decide) (by decide) (by decide) ?_
      exact lc_ofEntry Z hI hs hP hD hS hl hi hL hf go
    · refine lv_tableIn (off := 418) (tgt := 450) hx hb d_law_32 (by decide) (by decide) (by decide) (by decide) ?_
      exact lc_count Z hI hs hP hD hS hl hi hL hf go
    · refine lv_tableIn (off := 441) (tgt := 473) hx hb d_law_32 (by decide) (by decide) (by decide) (by decide) ?_
      exact lc_stepsToMend Z hI hs hP hD hS hl hi hL hf go
    · refine lv_tableIn (off := 454) (tgt := 486) hx hb d_law_32 (by decide) (by decide) (by decide) (by decide) ?_
      exact lc_wouldBe Z hI hs hP hD hS hl hi hL hf go
    · refine lv_tableIn (off := 477) (tgt := 509) hx hb d_law_32 (by decide) (by decide) (by decide) (by decide) ?_
      exact lc_firstNeeded Z hI hs hP hD hS hl hi hL hf go
    · refine lv_tableIn (off := 490) (tgt := 522) hx hb d_law_32 (by decide) (by decide) (by decide) (by decide) ?_
      exact lc_settled Z hI hs hP hD hS hl hi hL hf go
    · refine lv_tableIn (off := 513) (tgt := 545) hx hb d_law_32 (by decide) (by decide) (by decide) (by decide) ?_
      exact lc_put Z hI hs hP hD hS hl hi hL hf go
    · refine lv_tableIn (off := 566) (tgt := 598) hx hb d_law_32 (by decide) (by decide) (by decide) (by decide) ?_
      exact lc_wipe Z hI hs hP hD hS hl hi hL hf go
    · refine lv_tableIn (off := 579) (tgt := 611) hx hb d_law_32 (by decide) (by decide) (by decide) (by decide) ?_
      exact lc_fault Z hI hs hP hD hS hl hi hL hf go
    · refine lv_tableIn (off := 592) (tgt := 624) hx hb d_law_32 (by decide) (by decide) (by decide) (by decide) ?_
      exact lc_carryOut Z hI hs hP hD hS hl hi hL hf go
    · refine lv_tableIn (off := 605) (tgt := 637) hx hb d_law_32 (by decide) (by decide) (by decide) (by decide) ?_
      exact lc_undo Z hI hs hP hD hS hl hi hL hf go
    · refine lv_tableIn (off := 618) (tgt := 650) hx hb d_law_32 (by decide) (by decide) (by decide) (by decide) ?_
      exact lc_keep Z hI hs hP hD hS hl hi hL hf go
    · refine lv_tableIn (off := 641) (tgt := 673) hx hb d_law_32 (by decide) (by decide) (by decide) (by decide) ?_
      exact lc_bring Z hI hs hP hD hS hl hi hL hf go
theorem law_head (Z : CX p s m c b L xs G) (hr : meth.sig.returnType = ret) (hlocks : meth.locks = false) (hP : va_P G.1 vwCl (W_Fd G a h Y V ++ W_Md G ca M) H) (hD : va_D (AA s) (W_Fd G a h Y V ++ W_Md G ca M)) (hS : va_S (AA s) s.heap H locs) (hl : lv_has ls 4 [(0, .ref b), (1, .ref (a 0)), (2, .ref (ca 0)), (3, .int (nI i))]) (hi : i < 100000) (hL : L ≤ 2048) (hf : cells ≤ 1200000 ∧ slots ≤ 5502250)
    (body : i + 4 ≤ L → W p l e room_1 s m #[Value.ref b] below meth c H locs cells slots (lw_Z below #[Value.ref b] s) (F0 m 26 ls [])) : W p l e room_1 s m #[Value.ref b] below meth c H locs cells slots (lw_Z below #[Value.ref b] s) (F0 m 18 ls []) := by
  obtain ⟨hx, hb, hml, hown, hts, hX, hbl, hK, hN⟩ := id Z
  refine lv_iload_n hx hb d_law_18 rfl (lv_at hl 3 rfl) ?_
  refine lv_aload_n hx hb d_law_19 rfl (lv_at hl 0 rfl) ?_
  refine va_slen hx hb hX hbl (A := AA s) (Nat.not_le.mpr hbl) hS d_law_20 ?_
  refine lv_iconst (v := 4) hx hb d_law_21 (by decide) ?_
  refine lv_isub hx hb d_law_22 ?_
  refine lv_icmp_gt (tgt := 702) hx hb d_law_23 (by decide) (fun cg => ?_) (fun cg => ?_)
  · refine lv_iconst (v := 1) hx hb d_law_702 (by decide) ?_
    refine va_forget (fun q hq => hS.2.2 q hq) ?_
    refine W.widen (k := 1200000) (n := 5502250) hf.1 hf.2 ?_
    exact lw_ret hx hb hr hlocks d_law_703
  · exact body (lw_cond hL hi cg)
end LB
set_option maxHeartbeats 4000000 in
theorem law_loop {p : Program} {l : Launch} {e : Env} {s : State} {m : MethodId} {below : List Frame} {meth : Method} {c : Code} {b L : Nat} {xs : Nat → Int32} {G : GG} {a ca : Nat → Nat} {h : Nat} (Z : CX p s m c b L xs G) (hr : meth.sig.returnType = ret) (hlocks : meth.locks = false) (hL : L ≤ 2048) :
    ∀ (n k : Nat) (Y : va_W) (V : V_Fd) (M : V_Md) (H : Heap) (locs : List Loc) (ls : Array Slot), k + n = 512 → ALL V M → SLS G h Y M → va_P G.1 vwCl (W_Fd G a h Y V ++ W_Md G ca M) H → va_D (AA s) (W_Fd G a h Y V ++ W_Md G ca M) → va_S (AA s) s.heap H locs → lv_has ls 4 [(0, .ref b), (1, .ref (a 0)), (2, .ref (ca 0)), (3, .int (nI (4 * k)))] →
    W p l e room_1 s m #[Value.ref b] below meth c H locs (300 + 20 * k) (50000 + 2248 * k) (lw_Z below #[Value.ref b] s) (F0 m 18 ls []) := by
  intro n
  induction n with
  | zero =>
    intro k Y V M H locs ls hk hI hs hP hD hS hl
    exact law_head Z hr hlocks hP hD hS hl (by omega) hL ⟨by omega, by omega⟩ (fun z => absurd z (by omega))
  | succ n ih =>
    intro k Y V M H locs ls hk hI hs hP hD hS hl
    refine law_head Z hr hlocks hP hD hS hl (by omega) hL ⟨by omega, by omega⟩ (fun z => ?_)
    obtain ⟨hx, hb, -, -, -, -, -, -, -⟩ := id Z
    refine law_body Z hI hs hP hD hS hl z hL ⟨show _ ≤ 1200000 by omega, show _ ≤ 5502250 by omega⟩ (fun Y V M H locs hI hs hP hD hS => ?_)
    refine lv_iinc (v := nI (4 * (k + 1))) (lv' := [(3, .int (nI (4 * (k + 1)))), (0, .ref b), (1, .ref (a 0)), (2, .ref (ca 0))]) hx hb d_law_696 hl (k := 3) rfl (by
      have e4 : Int32.ofInt 4 = nI 4 := by decide
      rw [e4, i_add]
      rfl) (by decide) rfl (fun ls hl => ?_)
    refine lv_goto (tgt := 18) hx hb d_law_699 (by decide) ?_
    have g := ih (k + 1) Y V M H locs ls (by omega) hI hs hP hD hS (lv_sub hl [1, 2, 3, 0] rfl)
    have e1 : 300 + 20 * (k + 1) = 300 + 20 * k + 20 := by omega
    have e2 : 50000 + 2248 * (k + 1) = 50000 + 2248 * k + 2248 := by omega
    rw [e1, e2] at g
    exact g
