section LC
variable {p : Program} {l : Launch} {e : Env} {s : State} {m : MethodId} {below : List Frame} {meth : Method} {c : Code} {H : Heap} {locs : List Loc} {cells slots : Nat} {Q : State → Prop}
variable {b L i : Nat} {xs : Nat → Int32} {G : GG} {a ca : Nat → Nat} {h : Nat} {Y : va_W} {V : V_Fd} {M : V_Md} {ls : Array Slot}
set_option maxHeartbeats 4000000 in
set_option maxRecDepth 100000 in
theorem lc_wipe (Z : CX p s m c b L xs G) (hI : ALL V M) (hs : SLS G h Y M) (hP : va_P G.1 vwCl (W_Fd G a h Y V ++ W_Md G ca M) H) (hD : va_D (AA s) (W_Fd G a h Y V ++ W_Md G ca M)) (hS : va_S (AA s) s.heap H locs) (hl : lv_has ls 4 [(0, .ref b), (1, .ref (a 0)), (2, .ref (ca 0)), (3, .int (nI i))]) (hi : i + 4 ≤ L) (hL : L ≤ 2048) (hf : cells + 20 ≤ room_1.cells ∧ slots + 2248 ≤ room_1.slots) (go : GO p l e s m below meth c b G a ca h ls cells slots Q) :
    W p l e room_1 s m #[Value.ref b] below meth c H locs cells slots Q (F0 m 598 ls []) := by
  obtain ⟨hx, hb, hml, hown, hts, hX, hbl, hK, hN⟩ := id Z
  have hf0 : cells ≤ room_1.cells ∧ slots ≤ room_1.slots := ⟨by have := hf.1; omega, by have := hf.2; omega⟩
  obtain ⟨r, V1, M1, e1, e2, hI1, g1, g2⟩ := cs_wipe hI
  refine lv_aload_n hx hb d_law_598 rfl (lv_at hl 1 rfl) ?_
  refine kFd (index := 92) Z hP hD hS (t_Fd_wipe l G a h Y V (r, V1) e1) m_Fd_wipe k_648 ⟨Nat.le_of_ble_eq_true rfl, Nat.le_of_ble_eq_true rfl⟩ rfl rfl (Nat.le_of_ble_eq_true rfl) hl.1 d_law_599 hf0 (fun H locs hP hD hS => ?_)
  refine lv_aload_n hx hb d_law_602 rfl (lv_at hl 2 rfl) ?_
  refine kMd (index := 95) Z hP hD hS (t_Md_wipe l G ca M (r, M1) e2) m_Md_wipe k_981 ⟨Nat.le_of_ble_eq_true rfl, Nat.le_of_ble_eq_true rfl⟩ rfl rfl (Nat.le_of_ble_eq_true rfl) hl.1 d_law_603 hf0 (fun H locs hP hD hS => ?_)
  refine lv_icmp_eq (tgt := 696) hx hb d_law_606 (by decide) (fun _ => ?_) (fun z => absurd rfl z)
  refine W.widen (k := cells + 20) (n := slots + 2248) (Nat.le_add_right _ _) (Nat.le_add_right _ _) ?_
  exact go Y V1 M1 H locs hI1 (SLS_cg hs g1 g2) hP hD hS
set_option maxHeartbeats 4000000 in
set_option maxRecDepth 100000 in
theorem lc_fault (Z : CX p s m c b L xs G) (hI : ALL V M) (hs : SLS G h Y M) (hP : va_P G.1 vwCl (W_Fd G a h Y V ++ W_Md G ca M) H) (hD : va_D (AA s) (W_Fd G a h Y V ++ W_Md G ca M)) (hS : va_S (AA s) s.heap H locs) (hl : lv_has ls 4 [(0, .ref b), (1, .ref (a 0)), (2, .ref (ca 0)), (3, .int (nI i))]) (hi : i + 4 ≤ L) (hL : L ≤ 2048) (hf : cells + 20 ≤ room_1.cells ∧ slots + 2248 ≤ room_1.slots) (go : GO p l e s m below meth c b G a ca h ls cells slots Q) :
    W p l e room_1 s m #[Value.ref b] below meth c H locs cells slots Q (F0 m 611 ls []) := by
  obtain ⟨hx, hb, hml, hown, hts, hX, hbl, hK, hN⟩ := id Z
  have hf0 : cells ≤ room_1.cells ∧ slots ≤ room_1.slots := ⟨by have := hf.1; omega, by have := hf.2; omega⟩
  obtain ⟨r, V1, M1, e1, e2, hI1, g1, g2⟩ := cs_fault hI
  refine lv_aload_n hx hb d_law_611 rfl (lv_at hl 1 rfl) ?_
  refine kFd (index := 96) Z hP hD hS (t_Fd_fault l G a h Y V (r, V1) e1) m_Fd_fault k_656 ⟨Nat.le_of_ble_eq_true rfl, Nat.le_of_ble_eq_true rfl⟩ rfl rfl (Nat.le_of_ble_eq_true rfl) hl.1 d_law_612 hf0 (fun H locs hP hD hS => ?_)
  refine lv_aload_n hx hb d_law_615 rfl (lv_at hl 2 rfl) ?_
  refine kMd (index := 99) Z hP hD hS (t_Md_fault l G ca M (r, M1) e2) m_Md_fault k_985 ⟨Nat.le_of_ble_eq_true rfl, Nat.le_of_ble_eq_true rfl⟩ rfl rfl (Nat.le_of_ble_eq_true rfl) hl.1 d_law_616 hf0 (fun H locs hP hD hS => ?_)
  refine lv_icmp_eq (tgt := 696) hx hb d_law_619 (by decide) (fun _ => ?_) (fun z => absurd rfl z)
  refine W.widen (k := cells + 20) (n := slots + 2248) (Nat.le_add_right _ _) (Nat.le_add_right _ _) ?_
  exact go Y V1 M1 H locs hI1 (SLS_cg hs g1 g2) hP hD hS
set_option maxHeartbeats 4000000 in
set_option maxRecDepth 100000 in
theorem lc_carryOut (Z : CX p s m c b L xs G) (hI : ALL V M) (hs : SLS G h Y M) (hP : va_P G.1 vwCl (W_Fd G a h Y V ++ W_Md G ca M) H) (hD : va_D (AA s) (W_Fd G a h Y V ++ W_Md G ca M)) (hS : va_S (AA s) s.heap H locs) (hl : lv_has ls 4 [(0, .ref b), (1, .ref (a 0)), (2, .ref (ca 0)), (3, .int (nI i))]) (hi : i + 4 ≤ L) (hL : L ≤ 2048) (hf : cells + 20 ≤ room_1.cells ∧ slots + 2248 ≤ room_1.slots) (go : GO p l e s m below meth c b G a ca h ls cells slots Q) :
    W p l e room_1 s m #[Value.ref b] below meth c H locs cells slots Q (F0 m 624 ls []) := by
  obtain ⟨hx, hb, hml, hown, hts, hX, hbl, hK, hN⟩ := id Z
  have hf0 : cells ≤ room_1.cells ∧ slots ≤ room_1.slots := ⟨by have := hf.1; omega, by have := hf.2; omega⟩
  obtain ⟨r, V1, M1, e1, e2, hI1, g1, g2⟩ := cs_carryOut hI
  refine lv_aload_n hx hb d_law_624 rfl (lv_at hl 1 rfl) ?_
  refine kFd (index := 100) Z hP hD hS (t_Fd_carryOut l G a h Y V (r, V1) e1) m_Fd_carryOut k_693 ⟨Nat.le_of_ble_eq_true rfl, Nat.le_of_ble_eq_true rfl⟩ rfl rfl (Nat.le_of_ble_eq_true rfl) hl.1 d_law_625 hf0 (fun H locs hP hD hS => ?_)
  refine lv_aload_n hx hb d_law_628 rfl (lv_at hl 2 rfl) ?_
  refine kMd (index := 103) Z hP hD hS (t_Md_carryOut l G ca M (r, M1) e2) m_Md_carryOut k_1007 ⟨Nat.le_of_ble_eq_true rfl, Nat.le_of_ble_eq_true rfl⟩ rfl rfl (Nat.le_of_ble_eq_true rfl) hl.1 d_law_629 hf0 (fun H locs hP hD hS => ?_)
  refine lv_icmp_eq (tgt := 696) hx hb d_law_632 (by decide) (fun _ => ?_) (fun z => absurd rfl z)
  refine W.widen (k := cells + 20) (n := slots + 2248) (Nat.le_add_right _ _) (Nat.le_add_right _ _) ?_
  exact go Y V1 M1 H locs hI1 (SLS_cg hs g1 g2) hP hD hS
set_option maxHeartbeats 4000000 in
set_option maxRecDepth 100000 in
theorem lc_undo (Z : CX p s m c b L xs G) (hI : ALL V M) (hs : SLS G h Y M) (hP : va_P G.1 vwCl (W_Fd G a h Y V ++ W_Md G ca M) H) (hD : va_D (AA s) (W_Fd G a h Y V ++ W_Md G ca M)) (hS : va_S (AA s) s.heap H locs) (hl : lv_has ls 4 [(0, .ref b), (1, .ref (a 0)), (2, .ref (ca 0)), (3, .int (nI i))]) (hi : i + 4 ≤ L) (hL : L ≤ 2048) (hf : cells + 20 ≤ room_1.cells ∧ slots + 2248 ≤ room_1.slots) (go : GO p l e s m below meth c b G a ca h ls cells slots Q) :
    W p l e room_1 s m #[Value.ref b] below meth c H locs cells slots Q (F0 m 637 ls []) := by
  obtain ⟨hx, hb, hml, hown, hts, hX, hbl, hK, hN⟩ := id Z
  have hf0 : cells ≤ room_1.cells ∧ slots ≤ room_1.slots := ⟨by have := hf.1; omega, by have := hf.2; omega⟩
  obtain ⟨r, V1, M1, e1, e2, hI1, g1, g2⟩ := cs_undo hI
  refine lv_aload_n hx hb d_law_637 rfl (lv_at hl 1 rfl) ?_
  refine kFd (index := 104) Z hP hD hS (t_Fd_undo l G a h Y V (r, V1) e1) m_Fd_undo k_713 ⟨Nat.le_of_ble_eq_true rfl, Nat.le_of_ble_eq_true rfl⟩ rfl rfl (Nat.le_of_ble_eq_true rfl) hl.1 d_law_638 hf0 (fun H locs hP hD hS => ?_)
  refine lv_aload_n hx hb d_law_641 rfl (lv_at hl 2 rfl) ?_
  refine kMd (index := 107) Z hP hD hS (t_Md_undo l G ca M (r, M1) e2) m_Md_undo k_1016 ⟨Nat.le_of_ble_eq_true rfl, Nat.le_of_ble_eq_true rfl⟩ rfl rfl (Nat.le_of_ble_eq_true rfl) hl.1 d_law_642 hf0 (fun H locs hP hD hS => ?_)
  refine lv_icmp_eq (tgt := 696) hx hb d_law_645 (by decide) (fun _ => ?_) (fun z => absurd rfl z)
  refine W.widen (k := cells + 20) (n := slots + 2248) (Nat.le_add_right _ _) (Nat.le_add_right _ _) ?_
  exact go Y V1 M1 H locs hI1 (SLS_cg hs g1 g2) hP hD hS
set_option maxHeartbeats 4000000 in
set_option maxRecDepth 100000 in
theorem lc_keep (Z : CX p s m c b L xs G) (hI : ALL V M) (hs : SLS G h Y M) (hP : va_P G.1 vwCl (W_Fd G a h Y V ++ W_Md G ca M) H) (hD : va_D (AA s) (W_Fd G a h Y V ++ W_Md G ca M)) (hS : va_S (AA s) s.heap H locs) (hl : lv_has ls 4 [(0, .ref b), (1, .ref (a 0)), (2, .ref (ca 0)), (3, .int (nI i))]) (hi : i + 4 ≤ L) (hL : L ≤ 2048) (hf : cells + 20 ≤ room_1.cells ∧ slots + 2248 ≤ room_1.slots) (go : GO p l e s m below meth c b G a ca h ls cells slots Q) :
    W p l e room_1 s m #[Value.ref b] below meth c H locs cells slots Q (F0 m 650 ls []) := by
  obtain ⟨hx, hb, hml, hown, hts, hX, hbl, hK, hN⟩ := id Z
  have hf0 : cells ≤ room_1.cells ∧ slots ≤ room_1.slots := ⟨by have := hf.1; omega, by have := hf.2; omega⟩
  refine lv_aload_n hx hb d_law_650 rfl (lv_at hl 1 rfl) ?_
  refine lw_ld (kk := 1) Z hS (lv_at hl 0 rfl) (lv_at hl 3 rfl) rfl (by omega) hL d_law_651 d_law_652 d_law_653 d_law_654 d_law_655 ?_
  rcases slot_arg (xs (i + 1)) with ⟨j, hj, ex, -, -⟩ | ⟨a1, a2⟩
  rotate_left
  · obtain ⟨e1, e2⟩ := keep_no hI a1 a2
    refine kFd (index := 108) Z hP hD hS (t_Fd_keepN l G a h Y (xs (i + 1)) V (-2, V) e1) m_Fd_keep k_721 ⟨Nat.le_of_ble_eq_true rfl, Nat.le_of_ble_eq_true rfl⟩ rfl rfl (Nat.le_of_ble_eq_true rfl) hl.1 d_law_656 hf0 (fun H locs hP hD hS => ?_)
    refine lv_aload_n hx hb d_law_659 rfl (lv_at hl 2 rfl) ?_
    refine lw_ld (kk := 1) Z hS (lv_at hl 0 rfl) (lv_at hl 3 rfl) rfl (by omega) hL d_law_660 d_law_661 d_law_662 d_law_663 d_law_664 ?_
    refine kMd (index := 111) Z hP hD hS (t_Md_keep l G ca (xs (i + 1)) M (-2, M) e2) m_Md_keep k_1020 ⟨Nat.le_of_ble_eq_true rfl, Nat.le_of_ble_eq_true rfl⟩ rfl rfl (Nat.le_of_ble_eq_true rfl) hl.1 d_law_665 hf0 (fun H locs hP hD hS => ?_)
    refine lv_icmp_eq (tgt := 696) hx hb d_law_668 (by decide) (fun _ => ?_) (fun z => absurd rfl z)
    refine W.widen (k := cells + 20) (n := slots + 2248) (Nat.le_add_right _ _) (Nat.le_add_right _ _) ?_
    exact go Y V M H locs hI hs hP hD hS
  obtain ⟨M1, k1, k2, k3, k4⟩ := keep_ref hI hj
  have k1x : f_Md_keep (xs (i + 1)) M = some (V.1.2.1.2.2.2.2.2.2.2.1, M1) := by rw [ex]; exact k1
  rcases hs with ⟨b1, u, rfl, rfl, e0, e1⟩ | ⟨b1, u, rfl, rfl, e0, e1⟩ | ⟨b1, u, rfl, rfl, e0, e1⟩ | ⟨b1, u, rfl, rfl, e0, e1⟩
  · rcases one_or hj with rfl | rfl
    · obtain ⟨q1, q2, q3⟩ := k3 St0
      refine kFdA (index := 108) Z hP hD hS (t_Fd_keep_S0_0 l G a b1 u V q1 q2) m_Fd_keep k_721 ⟨Nat.le_of_ble_eq_true rfl, Nat.le_of_ble_eq_true rfl⟩ (by rw [ex]; rfl) rfl (Nat.le_of_ble_eq_true rfl) hl.1 d_law_656 hf (fun b2 H locs hb2 hP hD hS => ?_)
      refine lv_aload_n hx hb d_law_659 rfl (lv_at hl 2 rfl) ?_
      refine lw_ld (kk := 1) Z hS (lv_at hl 0 rfl) (lv_at hl 3 rfl) rfl (by omega) hL d_law_660 d_law_661 d_law_662 d_law_663 d_law_664 ?_
      refine kMd (index := 111) Z hP hD hS (t_Md_keep l G ca (xs (i + 1)) M (_, M1) k1x) m_Md_keep k_1020 ⟨Nat.le_of_ble_eq_true rfl, Nat.le_of_ble_eq_true rfl⟩ rfl rfl (Nat.le_of_ble_eq_true rfl) hl.1 d_law_665 hf (fun H locs hP hD hS => ?_)
      refine lv_icmp_eq (tgt := 696) hx hb d_law_668 (by decide) (fun _ => ?_) (fun z => absurd rfl z)
      rw [hb2] at hP hD
      exact go _ V M1 H locs k2 (Or.inr (Or.inl ⟨b2, q1, hb2, rfl, q3, ((k4 1 (by omega) (by omega)).1 e1)⟩)) hP hD hS
    · obtain ⟨q1, q2, q3⟩ := k3 St0
      refine kFdA (index := 108) Z hP hD hS (t_Fd_keep_S0_1 l G a b1 u V q1 q2) m_Fd_keep k_721 ⟨Nat.le_of_ble_eq_true rfl, Nat.le_of_ble_eq_true rfl⟩ (by rw [ex]; rfl) rfl (Nat.le_of_ble_eq_true rfl) hl.1 d_law_656 hf (fun b2 H locs hb2 hP hD hS => ?_)
      refine lv_aload_n hx hb d_law_659 rfl (lv_at hl 2 rfl) ?_
      refine lw_ld (kk := 1) Z hS (lv_at hl 0 rfl) (lv_at hl 3 rfl) rfl (by omega) hL d_law_660 d_law_661 d_law_662 d_law_663 d_law_664 ?_
      refine kMd (index := 111) Z hP hD hS (t_Md_keep l G ca (xs (i + 1)) M (_, M1) k1x) m_Md_keep k_1020 ⟨Nat.le_of_ble_eq_true rfl, Nat.le_of_ble_eq_true rfl⟩ rfl rfl (Nat.le_of_ble_eq_true rfl) hl.1 d_law_665 hf (fun H locs hP hD hS => ?_)
      refine lv_icmp_eq (tgt := 696) hx hb d_law_668 (by decide) (fun _ => ?_) (fun z => absurd rfl z)
      rw [hb2] at hP hD
      exact go _ V M1 H locs k2 (Or.inr (Or.inr (Or.inl ⟨b2, q1, hb2, rfl, ((k4 0 (by omega) (by omega)).1 e0), q3⟩))) hP hD hS
  · rcases one_or hj with rfl | rfl
    · obtain ⟨q1, q2, q3⟩ := k3 u
      have q4 : f_S1_store_0 u V.1 = some q1 := by
        unfold f_S1_store_0
        rw [fS_0, oc_s, ob_f d10, og_t vin0, ob_t (by decide), q2, oc_s]
      refine kFdA (index := 108) Z hP hD hS (t_Fd_keep_S1_0 l G a b1 u V q1 q4) m_Fd_keep k_721 ⟨Nat.le_of_ble_eq_true rfl, Nat.le_of_ble_eq_true rfl⟩ (by rw [ex]; rfl) rfl (Nat.le_of_ble_eq_true rfl) hl.1 d_law_656 hf (fun b2 H locs hb2 hP hD hS => ?_)
      refine lv_aload_n hx hb d_law_659 rfl (lv_at hl 2 rfl) ?_
      refine lw_ld (kk := 1) Z hS (lv_at hl 0 rfl) (lv_at hl 3 rfl) rfl (by omega) hL d_law_660 d_law_661 d_law_662 d_law_663 d_law_664 ?_
      refine kMd (index := 111) Z hP hD hS (t_Md_keep l G ca (xs (i + 1)) M (_, M1) k1x) m_Md_keep k_1020 ⟨Nat.le_of_ble_eq_true rfl, Nat.le_of_ble_eq_true rfl⟩ rfl rfl (Nat.le_of_ble_eq_true rfl) hl.1 d_law_665 hf (fun H locs hP hD hS => ?_)
      refine lv_icmp_eq (tgt := 696) hx hb d_law_668 (by decide) (fun _ => ?_) (fun z => absurd rfl z)
      rw [hb2] at hP hD
      exact go _ V M1 H locs k2 (Or.inr (Or.inl ⟨b2, q1, hb2, rfl, q3, ((k4 1 (by omega) (by omega)).1 e1)⟩)) hP hD hS
    · obtain ⟨q1, q2, q3⟩ := k3 St0
      refine kFdA (index := 108) Z hP hD hS (t_Fd_keep_S1_1 l G a b1 u V q1 q2) m_Fd_keep k_721 ⟨Nat.le_of_ble_eq_true rfl, Nat.le_of_ble_eq_true rfl⟩ (by rw [ex]; rfl) rfl (Nat.le_of_ble_eq_true rfl) hl.1 d_law_656 hf (fun b2 H locs hb2 hP hD hS => ?_)
      refine lv_aload_n hx hb d_law_659 rfl (lv_at hl 2 rfl) ?_
      refine lw_ld (kk := 1) Z hS (lv_at hl 0 rfl) (lv_at hl 3 rfl) rfl (by omega) hL d_law_660 d_law_661 d_law_662 d_law_663 d_law_664 ?_
      refine kMd (index := 111) Z hP hD hS (t_Md_keep l G ca (xs (i + 1)) M (_, M1) k1x) m_Md_keep k_1020 ⟨Nat.le_of_ble_eq_true rfl, Nat.le_of_ble_eq_true rfl⟩ rfl rfl (Nat.le_of_ble_eq_true rfl) hl.1 d_law_665 hf (fun H locs hP hD hS => ?_)
      refine lv_icmp_eq (tgt := 696) hx hb d_law_668 (by decide) (fun _ => ?_) (fun z => absurd rfl z)
      rw [hb2] at hP hD
      exact go _ V M1 H locs k2 (Or.inr (Or.inr (Or.inr ⟨b2, (u, q1), hb2, rfl, ((k4 0 (by omega) (by omega)).2 _ e0), q3⟩))) hP hD hS
  · rcases one_or hj with rfl | rfl
    · obtain ⟨q1, q2, q3⟩ := k3 St0
      refine kFdA (index := 108) Z hP hD hS (t_Fd_keep_S2_0 l G a b1 u V q1 q2) m_Fd_keep k_721 ⟨Nat.le_of_ble_eq_true rfl, Nat.le_of_ble_eq_true rfl⟩ (by rw [ex]; rfl) rfl (Nat.le_of_ble_eq_true rfl) hl.1 d_law_656 hf (fun b2 H locs hb2 hP hD hS => ?_)
      refine lv_aload_n hx hb d_law_659 rfl (lv_at hl 2 rfl) ?_
      refine lw_ld (kk := 1) Z hS (lv_at hl 0 rfl) (lv_at hl 3 rfl) rfl (by omega) hL d_law_660 d_law_661 d_law_662 d_law_663 d_law_664 ?_
      refine kMd (index := 111) Z hP hD hS (t_Md_keep l G ca (xs (i + 1)) M (_, M1) k1x) m_Md_keep k_1020 ⟨Nat.le_of_ble_eq_true rfl, Nat.le_of_ble_eq_true rfl⟩ rfl rfl (Nat.le_of_ble_eq_true rfl) hl.1 d_law_665 hf (fun H locs hP hD hS => ?_)
      refine lv_icmp_eq (tgt := 696) hx hb d_law_668 (by decide) (fun _ => ?_) (fun z => absurd rfl z)
      rw [hb2] at hP hD
      exact go _ V M1 H locs k2 (Or.inr (Or.inr (Or.inr ⟨b2, (q1, u), hb2, rfl, q3, ((k4 1 (by omega) (by omega)).2 _ e1)⟩))) hP hD hS
    · obtain ⟨q1, q2, q3⟩ := k3 u
      have q4 : f_S2_store_1 u V.1 = some q1 := by
        unfold f_S2_store_1
        rw [fS_1, oc_s, ob_f d10, og_t vin1, ob_f (by decide), ob_t (by decide), q2, oc_s]
      refine kFdA (index := 108) Z hP hD hS (t_Fd_keep_S2_1 l G a b1 u V q1 q4) m_Fd_keep k_721 ⟨Nat.le_of_ble_eq_true rfl, Nat.le_of_ble_eq_true rfl⟩ (by rw [ex]; rfl) rfl (Nat.le_of_ble_eq_true rfl) hl.1 d_law_656 hf (fun b2 H locs hb2 hP hD hS => ?_)
      refine lv_aload_n hx hb d_law_659 rfl (lv_at hl 2 rfl) ?_
      refine lw_ld (kk := 1) Z hS (lv_at hl 0 rfl) (lv_at hl 3 rfl) rfl (by omega) hL d_law_660 d_law_661 d_law_662 d_law_663 d_law_664 ?_
      refine kMd (index := 111) Z hP hD hS (t_Md_keep l G ca (xs (i + 1)) M (_, M1) k1x) m_Md_keep k_1020 ⟨Nat.le_of_ble_eq_true rfl, Nat.le_of_ble_eq_true rfl⟩ rfl rfl (Nat.le_of_ble_eq_true rfl) hl.1 d_law_665 hf (fun H locs hP hD hS => ?_)
      refine lv_icmp_eq (tgt := 696) hx hb d_law_668 (by decide) (fun _ => ?_) (fun z => absurd rfl z)
      rw [hb2] at hP hD
      exact go _ V M1 H locs k2 (Or.inr (Or.inr (Or.inl ⟨b2, q1, hb2, rfl, ((k4 0 (by omega) (by omega)).1 e0), q3⟩))) hP hD hS
  · rcases one_or hj with rfl | rfl
    · obtain ⟨q1, q2, q3⟩ := k3 u.1
      have q4 : f_S3_store_0 u V.1 = some (q1, u.2) := by
        unfold f_S3_store_0
        rw [fS_0, oc_s, ob_f d10, og_t vin0, ob_t (by decide), q2, oc_s]
      refine kFdA (index := 108) Z hP hD hS (t_Fd_keep_S3_0 l G a b1 u V q1 q4) m_Fd_keep k_721 ⟨Nat.le_of_ble_eq_true rfl, Nat.le_of_ble_eq_true rfl⟩ (by rw [ex]; rfl) rfl (Nat.le_of_ble_eq_true rfl) hl.1 d_law_656 hf (fun b2 H locs hb2 hP hD hS => ?_)
      refine lv_aload_n hx hb d_law_659 rfl (lv_at hl 2 rfl) ?_
      refine lw_ld (kk := 1) Z hS (lv_at hl 0 rfl) (lv_at hl 3 rfl) rfl (by omega) hL d_law_660 d_law_661 d_law_662 d_law_663 d_law_664 ?_
      refine kMd (index := 111) Z hP hD hS (t_Md_keep l G ca (xs (i + 1)) M (_, M1) k1x) m_Md_keep k_1020 ⟨Nat.le_of_ble_eq_true rfl, Nat.le_of_ble_eq_true rfl⟩ rfl rfl (Nat.le_of_ble_eq_true rfl) hl.1 d_law_665 hf (fun H locs hP hD hS => ?_)
      refine lv_icmp_eq (tgt := 696) hx hb d_law_668 (by decide) (fun _ => ?_) (fun z => absurd rfl z)
      rw [hb2] at hP hD
      exact go _ V M1 H locs k2 (Or.inr (Or.inr (Or.inr ⟨b2, (q1, u.2), hb2, rfl, q3, ((k4 1 (by omega) (by omega)).2 _ e1)⟩))) hP hD hS
    · obtain ⟨q1, q2, q3⟩ := k3 u.2
      have q4 : f_S3_store_1 u V.1 = some (u.1, q1) := by
        unfold f_S3_store_1
        rw [fS_1, oc_s, ob_f d10, og_t vin1, ob_f (by decide), ob_t (by decide), q2, oc_s]
      refine kFdA (index := 108) Z hP hD hS (t_Fd_keep_S3_1 l G a b1 u V q1 q4) m_Fd_keep k_721 ⟨Nat.le_of_ble_eq_true rfl, Nat.le_of_ble_eq_true rfl⟩ (by rw [ex]; rfl) rfl (Nat.le_of_ble_eq_true rfl) hl.1 d_law_656 hf (fun b2 H locs hb2 hP hD hS => ?_)
      refine lv_aload_n hx hb d_law_659 rfl (lv_at hl 2 rfl) ?_
      refine lw_ld (kk := 1) Z hS (lv_at hl 0 rfl) (lv_at hl 3 rfl) rfl (by omega) hL d_law_660 d_law_661 d_law_662 d_law_663 d_law_664 ?_
      refine kMd (index := 111) Z hP hD hS (t_Md_keep l G ca (xs (i + 1)) M (_, M1) k1x) m_Md_keep k_1020 ⟨Nat.le_of_ble_eq_true rfl, Nat.le_of_ble_eq_true rfl⟩ rfl rfl (Nat.le_of_ble_eq_true rfl) hl.1 d_law_665 hf (fun H locs hP hD hS => ?_)
      refine lv_icmp_eq (tgt := 696) hx hb d_law_668 (by decide) (fun _ => ?_) (fun z => absurd rfl z)
      rw [hb2] at hP hD
      exact go _ V M1 H locs k2 (Or.inr (Or.inr (Or.inr ⟨b2, (u.1, q1), hb2, rfl, ((k4 0 (by omega) (by omega)).2 _ e0), q3⟩))) hP hD hS
set_option maxHeartbeats 4000000 in
set_option maxRecDepth 100000 in
theorem lc_bring (Z : CX p s m c b L xs G) (hI : ALL V M) (hs : SLS G h Y M) (hP : va_P G.1 vwCl (W_Fd G a h Y V ++ W_Md G ca M) H) (hD : va_D (AA s) (W_Fd G a h Y V ++ W_Md G ca M)) (hS : va_S (AA s) s.heap H locs) (hl : lv_has ls 4 [(0, .ref b), (1, .ref (a 0)), (2, .ref (ca 0)), (3, .int (nI i))]) (hi : i + 4 ≤ L) (hL : L ≤ 2048) (hf : cells + 20 ≤ room_1.cells ∧ slots + 2248 ≤ room_1.slots) (go : GO p l e s m below meth c b G a ca h ls cells slots Q) :
    W p l e room_1 s m #[Value.ref b] below meth c H locs cells slots Q (F0 m 673 ls []) := by
  obtain ⟨hx, hb, hml, hown, hts, hX, hbl, hK, hN⟩ := id Z
  have hf0 : cells ≤ room_1.cells ∧ slots ≤ room_1.slots := ⟨by have := hf.1; omega, by have := hf.2; omega⟩
  refine lv_aload_n hx hb d_law_673 rfl (lv_at hl 1 rfl) ?_
  refine lw_ld (kk := 1) Z hS (lv_at hl 0 rfl) (lv_at hl 3 rfl) rfl (by omega) hL d_law_674 d_law_675 d_law_676 d_law_677 d_law_678 ?_
  have hs2 := hs
  rcases hs with ⟨b1, u, rfl, rfl, e0, e1⟩ | ⟨b1, u, rfl, rfl, e0, e1⟩ | ⟨b1, u, rfl, rfl, e0, e1⟩ | ⟨b1, u, rfl, rfl, e0, e1⟩
  · obtain ⟨r, V1, M1, e2, e3, hI1, g1, g2⟩ := s_bring0 (x := (xs (i + 1))) hI e0 e1 u
    refine kFd (index := 112) Z hP hD hS (t_Fd_bring_S0 l G a b1 (xs (i + 1)) V u (r, V1) e2) m_Fd_bring k_735 ⟨Nat.le_of_ble_eq_true rfl, Nat.le_of_ble_eq_true rfl⟩ rfl rfl (Nat.le_of_ble_eq_true rfl) hl.1 d_law_679 hf0 (fun H locs hP hD hS => ?_)
    refine lv_aload_n hx hb d_law_682 rfl (lv_at hl 2 rfl) ?_
    refine lw_ld (kk := 1) Z hS (lv_at hl 0 rfl) (lv_at hl 3 rfl) rfl (by omega) hL d_law_683 d_law_684 d_law_685 d_law_686 d_law_687 ?_
    refine kMd (index := 115) Z hP hD hS (t_Md_bring l G ca (xs (i + 1)) M (r, M1) e3) m_Md_bring k_1024 ⟨Nat.le_of_ble_eq_true rfl, Nat.le_of_ble_eq_true rfl⟩ rfl rfl (Nat.le_of_ble_eq_true rfl) hl.1 d_law_688 hf0 (fun H locs hP hD hS => ?_)
    refine lv_icmp_eq (tgt := 696) hx hb d_law_691 (by decide) (fun _ => ?_) (fun z => absurd rfl z)
    refine W.widen (k := cells + 20) (n := slots + 2248) (Nat.le_add_right _ _) (Nat.le_add_right _ _) ?_
    exact go _ V1 M1 H locs hI1 (SLS_cg hs2 g1 g2) hP hD hS
  · obtain ⟨r, V1, M1, e2, e3, hI1, g1, g2⟩ := s_bring1 (x := (xs (i + 1))) hI e0 e1
    refine kFd (index := 112) Z hP hD hS (t_Fd_bring_S1 l G a b1 (xs (i + 1)) V u (r, V1) e2) m_Fd_bring k_735 ⟨Nat.le_of_ble_eq_true rfl, Nat.le_of_ble_eq_true rfl⟩ rfl rfl (Nat.le_of_ble_eq_true rfl) hl.1 d_law_679 hf0 (fun H locs hP hD hS => ?_)
    refine lv_aload_n hx hb d_law_682 rfl (lv_at hl 2 rfl) ?_
    refine lw_ld (kk := 1) Z hS (lv_at hl 0 rfl) (lv_at hl 3 rfl) rfl (by omega) hL d_law_683 d_law_684 d_law_685 d_law_686 d_law_687 ?_
    refine kMd (index := 115) Z hP hD hS (t_Md_bring l G ca (xs (i + 1)) M (r, M1) e3) m_Md_bring k_1024 ⟨Nat.le_of_ble_eq_true rfl, Nat.le_of_ble_eq_true rfl⟩ rfl rfl (Nat.le_of_ble_eq_true rfl) hl.1 d_law_688 hf0 (fun H locs hP hD hS => ?_)
    refine lv_icmp_eq (tgt := 696) hx hb d_law_691 (by decide) (fun _ => ?_) (fun z => absurd rfl z)
    refine W.widen (k := cells + 20) (n := slots + 2248) (Nat.le_add_right _ _) (Nat.le_add_right _ _) ?_
    exact go _ V1 M1 H locs hI1 (SLS_cg hs2 g1 g2) hP hD hS
  · obtain ⟨r, V1, M1, e2, e3, hI1, g1, g2⟩ := s_bring2 (x := (xs (i + 1))) hI e0 e1
    refine kFd (index := 112) Z hP hD hS (t_Fd_bring_S2 l G a b1 (xs (i + 1)) V u (r, V1) e2) m_Fd_bring k_735 ⟨Nat.le_of_ble_eq_true rfl, Nat.le_of_ble_eq_true rfl⟩ rfl rfl (Nat.le_of_ble_eq_true rfl) hl.1 d_law_679 hf0 (fun H locs hP hD hS => ?_)
    refine lv_aload_n hx hb d_law_682 rfl (lv_at hl 2 rfl) ?_
    refine lw_ld (kk := 1) Z hS (lv_at hl 0 rfl) (lv_at hl 3 rfl) rfl (by omega) hL d_law_683 d_law_684 d_law_685 d_law_686 d_law_687 ?_
    refine kMd (index := 115) Z hP hD hS (t_Md_bring l G ca (xs (i + 1)) M (r, M1) e3) m_Md_bring k_1024 ⟨Nat.le_of_ble_eq_true rfl, Nat.le_of_ble_eq_true rfl⟩ rfl rfl (Nat.le_of_ble_eq_true rfl) hl.1 d_law_688 hf0 (fun H locs hP hD hS => ?_)
    refine lv_icmp_eq (tgt := 696) hx hb d_law_691 (by decide) (fun _ => ?_) (fun z => absurd rfl z)
    refine W.widen (k := cells + 20) (n := slots + 2248) (Nat.le_add_right _ _) (Nat.le_add_right _ _) ?_
    exact go _ V1 M1 H locs hI1 (SLS_cg hs2 g1 g2) hP hD hS
  · obtain ⟨r, V1, M1, e2, e3, hI1, g1, g2⟩ := s_bring3 (x := (xs (i + 1))) hI e0 e1
    refine kFd (index := 112) Z hP hD hS (t_Fd_bring_S3 l G a b1 (xs (i + 1)) V u (r, V1) e2) m_Fd_bring k_735 ⟨Nat.le_of_ble_eq_true rfl, Nat.le_of_ble_eq_true rfl⟩ rfl rfl (Nat.le_of_ble_eq_true rfl) hl.1 d_law_679 hf0 (fun H locs hP hD hS => ?_)
    refine lv_aload_n hx hb d_law_682 rfl (lv_at hl 2 rfl) ?_
    refine lw_ld (kk := 1) Z hS (lv_at hl 0 rfl) (lv_at hl 3 rfl) rfl (by omega) hL d_law_683 d_law_684 d_law_685 d_law_686 d_law_687 ?_
    refine kMd (index := 115) Z hP hD hS (t_Md_bring l G ca (xs (i + 1)) M (r, M1) e3) m_Md_bring k_1024 ⟨Nat.le_of_ble_eq_true rfl, Nat.le_of_ble_eq_true rfl⟩ rfl rfl (Nat.le_of_ble_eq_true rfl) hl.1 d_law_688 hf0 (fun H locs hP hD hS => ?_)
    refine lv_icmp_eq (tgt := 696) hx hb d_law_691 (by decide) (fun _ => ?_) (fun z => absurd rfl z)
    refine W.widen (k := cells + 20) (n := slots + 2248) (Nat.le_add_right _ _) (Nat.le_add_right _ _) ?_
    exact go _ V1 M1 H locs hI1 (SLS_cg hs2 g1 g2) hP hD hS
end LC
