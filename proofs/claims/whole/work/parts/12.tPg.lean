set_option maxHeartbeats 4000000 in
set_option maxRecDepth 100000 in
theorem t_Fd_isPage (l : Launch) (G : GG) (l0 : Int32) (q : Int32) (hf : f_Fd_isPage l0 = some q) : MI l G y_Fd_isPage c_Fd_isPage 1 (some .boolean) (rmk 0 0) (([] : va_W)) [.int l0] (([] : va_W)) (q) := by
  refine ofI "FloodDiary" (by decide +kernel) rfl (Nat.le_of_ble_eq_true rfl) (fun p e s m args below meth c A ls hx hb hr hml hown hts hlk hK hN hA hP hD hS hl => ?_)
  have hl : lv_has ls 1 [(0, .int l0)] := hl
  unfold f_Fd_isPage at hf
  refine lv_iload_n hx hb d_Fd_isPage_0 rfl (lv_at hl 0 rfl) ?_
  refine lv_if_lt (tgt := 14) hx hb d_Fd_isPage_1 (by decide) (fun c_1 => ?_) (fun c_1 => ?_)
  · replace hf := ob_et c_1 hf
    refine lv_iconst (v := (0 : Int32)) hx hb d_Fd_isPage_14 (by decide) ?_
    cases hf
    exact kZ hx hb hr hlk hP hD hS (Or.inl rfl) d_Fd_isPage_15
  · replace hf := ob_ef c_1 hf
    refine lv_iload_n hx hb d_Fd_isPage_4 rfl (lv_at hl 0 rfl) ?_
    refine lv_bipush (v := (8 : Int32)) hx hb d_Fd_isPage_5 (by decide) ?_
    refine lv_icmp_ge (tgt := 14) hx hb d_Fd_isPage_7 (by decide) (fun c_7 => ?_) (fun c_7 => ?_)
    · replace hf := ob_et c_7 hf
      refine lv_iconst (v := (0 : Int32)) hx hb d_Fd_isPage_14 (by decide) ?_
      cases hf
      exact kZ hx hb hr hlk hP hD hS (Or.inl rfl) d_Fd_isPage_15
    · replace hf := ob_ef c_7 hf
      refine lv_iconst (v := (1 : Int32)) hx hb d_Fd_isPage_10 (by decide) ?_
      refine lv_goto (tgt := 15) hx hb d_Fd_isPage_11 (by decide) ?_
      cases hf
      exact kZ hx hb hr hlk hP hD hS (Or.inr rfl) d_Fd_isPage_15
set_option maxHeartbeats 4000000 in
set_option maxRecDepth 100000 in
theorem t_Fd_isSlot (l : Launch) (G : GG) (l0 : Int32) (q : Int32) (hf : f_Fd_isSlot l0 = some q) : MI l G y_Fd_isSlot c_Fd_isSlot 1 (some .boolean) (rmk 0 0) (([] : va_W)) [.int l0] (([] : va_W)) (q) := by
  refine ofI "FloodDiary" (by decide +kernel) rfl (Nat.le_of_ble_eq_true rfl) (fun p e s m args below meth c A ls hx hb hr hml hown hts hlk hK hN hA hP hD hS hl => ?_)
  have hl : lv_has ls 1 [(0, .int l0)] := hl
  unfold f_Fd_isSlot at hf
  refine lv_iload_n hx hb d_Fd_isSlot_0 rfl (lv_at hl 0 rfl) ?_
  refine lv_if_lt (tgt := 13) hx hb d_Fd_isSlot_1 (by decide) (fun c_1 => ?_) (fun c_1 => ?_)
  · replace hf := ob_et c_1 hf
    refine lv_iconst (v := (0 : Int32)) hx hb d_Fd_isSlot_13 (by decide) ?_
    cases hf
    exact kZ hx hb hr hlk hP hD hS (Or.inl rfl) d_Fd_isSlot_14
  · replace hf := ob_ef c_1 hf
    refine lv_iload_n hx hb d_Fd_isSlot_4 rfl (lv_at hl 0 rfl) ?_
    refine lv_iconst (v := (2 : Int32)) hx hb d_Fd_isSlot_5 (by decide) ?_
    refine lv_icmp_ge (tgt := 13) hx hb d_Fd_isSlot_6 (by decide) (fun c_6 => ?_) (fun c_6 => ?_)
    · replace hf := ob_et c_6 hf
      refine lv_iconst (v := (0 : Int32)) hx hb d_Fd_isSlot_13 (by decide) ?_
      cases hf
      exact kZ hx hb hr hlk hP hD hS (Or.inl rfl) d_Fd_isSlot_14
    · replace hf := ob_ef c_6 hf
      refine lv_iconst (v := (1 : Int32)) hx hb d_Fd_isSlot_9 (by decide) ?_
      refine lv_goto (tgt := 14) hx hb d_Fd_isSlot_10 (by decide) ?_
      cases hf
      exact kZ hx hb hr hlk hP hD hS (Or.inr rfl) d_Fd_isSlot_14
set_option maxHeartbeats 4000000 in
set_option maxRecDepth 100000 in
theorem t_Fd_isChange (l : Launch) (G : GG) (l0 : Int32) (q : Int32) (hf : f_Fd_isChange l0 = some q) : MI l G y_Fd_isChange c_Fd_isChange 1 (some .boolean) (rmk 0 0) (([] : va_W)) [.int l0] (([] : va_W)) (q) := by
  refine ofI "FloodDiary" (by decide +kernel) rfl (Nat.le_of_ble_eq_true rfl) (fun p e s m args below meth c A ls hx hb hr hml hown hts hlk hK hN hA hP hD hS hl => ?_)
  have hl : lv_has ls 1 [(0, .int l0)] := hl
  unfold f_Fd_isChange at hf
  refine lv_iload_n hx hb d_Fd_isChange_0 rfl (lv_at hl 0 rfl) ?_
  refine lv_iconst (v := (1 : Int32)) hx hb d_Fd_isChange_1 (by decide) ?_
  refine lv_icmp_eq (tgt := 10) hx hb d_Fd_isChange_2 (by decide) (fun c_2 => ?_) (fun c_2 => ?_)
  · replace hf := ob_et c_2 hf
    refine lv_iconst (v := (1 : Int32)) hx hb d_Fd_isChange_10 (by decide) ?_
    refine lv_goto (tgt := 15) hx hb d_Fd_isChange_11 (by decide) ?_
    cases hf
    exact kZ hx hb hr hlk hP hD hS (Or.inr rfl) d_Fd_isChange_15
  · replace hf := ob_ef c_2 hf
    refine lv_iload_n hx hb d_Fd_isChange_5 rfl (lv_at hl 0 rfl) ?_
    refine lv_iconst (v := (2 : Int32)) hx hb d_Fd_isChange_6 (by decide) ?_
    refine lv_icmp_ne (tgt := 14) hx hb d_Fd_isChange_7 (by decide) (fun c_7 => ?_) (fun c_7 => ?_)
    · replace hf := ob_ef c_7 hf
      refine lv_iconst (v := (0 : Int32)) hx hb d_Fd_isChange_14 (by decide) ?_
      cases hf
      exact kZ hx hb hr hlk hP hD hS (Or.inl rfl) d_Fd_isChange_15
    · replace hf := ob_et c_7 hf
      refine lv_iconst (v := (1 : Int32)) hx hb d_Fd_isChange_10 (by decide) ?_
      refine lv_goto (tgt := 15) hx hb d_Fd_isChange_11 (by decide) ?_
      cases hf
      exact kZ hx hb hr hlk hP hD hS (Or.inr rfl) d_Fd_isChange_15
set_option maxHeartbeats 4000000 in
set_option maxRecDepth 100000 in
theorem t_Fd_asNumber (l : Launch) (G : GG) (l0 : Int32) (q : Int32) (hf : f_Fd_asNumber l0 = some q) : MI l G y_Fd_asNumber c_Fd_asNumber 1 (some .int) (rmk 0 0) (([] : va_W)) [.int l0] (([] : va_W)) (q) := by
  refine ofI "FloodDiary" (by decide +kernel) rfl (Nat.le_of_ble_eq_true rfl) (fun p e s m args below meth c A ls hx hb hr hml hown hts hlk hK hN hA hP hD hS hl => ?_)
  have hl : lv_has ls 1 [(0, .int l0)] := hl
  unfold f_Fd_asNumber at hf
  refine lv_iload_n hx hb d_Fd_asNumber_0 rfl (lv_at hl 0 rfl) ?_
  refine lv_if_eq (tgt := 8) hx hb d_Fd_asNumber_1 (by decide) (fun c_1 => ?_) (fun c_1 => ?_)
  · replace hf := ob_et c_1 hf
    refine lv_iconst (v := (0 : Int32)) hx hb d_Fd_asNumber_8 (by decide) ?_
    cases hf
    exact kI hx hb hr hlk hP hD hS d_Fd_asNumber_9
  · replace hf := ob_ef c_1 hf
    refine lv_iconst (v := (1 : Int32)) hx hb d_Fd_asNumber_4 (by decide) ?_
    refine lv_goto (tgt := 9) hx hb d_Fd_asNumber_5 (by decide) ?_
    cases hf
    exact kI hx hb hr hlk hP hD hS d_Fd_asNumber_9
set_option maxHeartbeats 4000000 in
set_option maxRecDepth 100000 in
theorem t_Fd_charactersIn (l : Launch) (G : GG) (l0 : Int64) (q : Int32) (hf : f_Fd_charactersIn l0 = some q) : MI l G y_Fd_charactersIn c_Fd_charactersIn 6 (some .int) (rmk 0 0) (([] : va_W)) [.long l0] (([] : va_W)) (q) := by
  refine ofI "FloodDiary" (by decide +kernel) rfl (Nat.le_of_ble_eq_true rfl) (fun p e s m args below meth c A ls hx hb hr hml hown hts hlk hK hN hA hP hD hS hl => ?_)
  have hl : lv_has ls 6 [(0, .long l0)] := hl
  have J_5 : ∀ (n_5 : Nat) (l2 : Int64) (l4 : Int32) (H : Heap) (locs : List Loc) (ls : Array Slot), va_P G.1 vwCl (([] : va_W)) H → va_D A (([] : va_W)) → va_S A s.heap H locs → lv_has ls 6 [(2, .long l2), (4, .int l4)] → f_Fd_charactersIn_5 n_5 l2 l4 = some q → W p l e (rmk 0 0) s m args below meth c H locs 0 0 (MQ below (qI G A (([] : va_W)) (q)) args s 0 0 A) (F0 m 5 ls []) := by
    intro n_5
    induction n_5 with
    | zero => intro l2 l4 H locs ls hP hD hS hl hf; exact absurd hf (by unfold f_Fd_charactersIn_5; exact fun z => by cases z)
    | succ n_5 ih_5 =>
      intro l2 l4 H locs ls hP hD hS hl hf
      rw [f_Fd_charactersIn_5] at hf
      refine lv_iload hx hb d_Fd_charactersIn_5 (lv_at hl 1 rfl) ?_
      refine lv_bipush (v := (8 : Int32)) hx hb d_Fd_charactersIn_7 (by decide) ?_
      refine lv_icmp_ge (tgt := 53) hx hb d_Fd_charactersIn_9 (by decide) (fun c_9 => ?_) (fun c_9 => ?_)
      · replace hf := ob_et c_9 hf
        refine lv_iload hx hb d_Fd_charactersIn_53 (lv_at hl 1 rfl) ?_
        cases hf
        exact kI hx hb hr hlk hP hD hS d_Fd_charactersIn_55
      · replace hf := ob_ef c_9 hf
        refine lv_lload_n hx hb d_Fd_charactersIn_12 rfl (lv_at hl 0 rfl) ?_
        refine lv_lconst (v := (0 : Int64)) hx hb d_Fd_charactersIn_13 (by decide) ?_
        refine W.lcmp hx hb d_Fd_charactersIn_14 ?_
        refine lv_if_eq (tgt := 53) hx hb d_Fd_charactersIn_15 (by decide) (fun c_15 => ?_) (fun c_15 => ?_)
        · replace hf := ob_et c_15 hf
          refine lv_iload hx hb d_Fd_charactersIn_53 (lv_at hl 1 rfl) ?_
          cases hf
          exact kI hx hb hr hlk hP hD hS d_Fd_charactersIn_55
        · replace hf := ob_ef c_15 hf
          refine lv_lload_n hx hb d_Fd_charactersIn_18 rfl (lv_at hl 0 rfl) ?_
          refine lv_ldc2 (v := (255 : Int64)) hx hb hown (hts _ k_638) d_Fd_charactersIn_19 ?_
          refine lv_land hx hb d_Fd_charactersIn_22 ?_
          refine lv_l2i (v := (l2 &&& (255 : Int64)).toInt32) hx hb d_Fd_charactersIn_23 rfl ?_
          refine lv_istore (lv' := [(5, .int ((l2 &&& (255 : Int64)).toInt32)), (2, .long l2), (4, .int l4)]) hx hb d_Fd_charactersIn_24 hl (by decide) rfl (fun ls hl => ?_)
          refine lv_iload hx hb d_Fd_charactersIn_26 (lv_at hl 0 rfl) ?_
          refine lv_bipush (v := (33 : Int32)) hx hb d_Fd_charactersIn_28 (by decide) ?_
          refine lv_icmp_lt (tgt := 40) hx hb d_Fd_charactersIn_30 (by decide) (fun c_30 => ?_) (fun c_30 => ?_)
          · replace hf := ob_et c_30 hf
            refine lv_iconst (v := (0 : Int32)) hx hb d_Fd_charactersIn_40 (by decide) ?_
            cases hf
            exact kI hx hb hr hlk hP hD hS d_Fd_charactersIn_41
          · replace hf := ob_ef c_30 hf
            refine lv_iload hx hb d_Fd_charactersIn_33 (lv_at hl 0 rfl) ?_
            refine lv_bipush (v := (126 : Int32)) hx hb d_Fd_charactersIn_35 (by decide) ?_
            refine lv_icmp_le (tgt := 42) hx hb d_Fd_charactersIn_37 (by decide) (fun c_37 => ?_) (fun c_37 => ?_)
            · replace hf := ob_et c_37 hf
              refine lv_lload_n hx hb d_Fd_charactersIn_42 rfl (lv_at hl 1 rfl) ?_
              refine lv_bipush (v := (8 : Int32)) hx hb d_Fd_charactersIn_43 (by decide) ?_
              refine lv_lushr (v := (l2.toUInt64 >>> ((8 : Int32).toInt64.toUInt64 &&& Int64.toUInt64 63)).toInt64) hx hb d_Fd_charactersIn_45 rfl ?_
              refine lv_lstore_n (lv' := [(2, .long ((l2.toUInt64 >>> ((8 : Int32).toInt64.toUInt64 &&& Int64.toUInt64 63)).toInt64)), (5, .int ((l2 &&& (255 : Int64)).toInt32)), (4, .int l4)]) hx hb d_Fd_charactersIn_46 rfl hl (by decide) rfl (fun ls hl => ?_)
              refine lv_iinc (v := (l4 + (1 : Int32))) (lv' := [(4, .int (l4 + (1 : Int32))), (2, .long ((l2.toUInt64 >>> ((8 : Int32).toInt64.toUInt64 &&& Int64.toUInt64 63)).toInt64)), (5, .int ((l2 &&& (255 : Int64)).toInt32))]) hx hb d_Fd_charactersIn_47 hl (k := 2) rfl rfl (by decide) rfl (fun ls hl => ?_)
              refine lv_goto (tgt := 5) hx hb d_Fd_charactersIn_50 (by decide) ?_
              exact ih_5 ((l2.toUInt64 >>> ((8 : Int32).toInt64.toUInt64 &&& Int64.toUInt64 63)).toInt64) (l4 + (1 : Int32)) _ _ ls hP hD hS (lv_sub hl [1, 0] rfl) hf
            · replace hf := ob_ef c_37 hf
              refine lv_iconst (v := (0 : Int32)) hx hb d_Fd_charactersIn_40 (by decide) ?_
              cases hf
              exact kI hx hb hr hlk hP hD hS d_Fd_charactersIn_41
  unfold f_Fd_charactersIn at hf
  refine lv_lload_n hx hb d_Fd_charactersIn_0 rfl (lv_at hl 0 rfl) ?_
  refine lv_lstore_n (lv' := [(2, .long l0), (0, .long l0)]) hx hb d_Fd_charactersIn_1 rfl hl (by decide) rfl (fun ls hl => ?_)
  refine lv_iconst (v := (0 : Int32)) hx hb d_Fd_charactersIn_2 (by decide) ?_
  refine lv_istore (lv' := [(4, .int (0 : Int32)), (2, .long l0), (0, .long l0)]) hx hb d_Fd_charactersIn_3 hl (by decide) rfl (fun ls hl => ?_)
  exact J_5 FU l0 (0 : Int32) _ _ ls hP hD hS (lv_sub hl [1, 0] rfl) hf
set_option maxHeartbeats 4000000 in
set_option maxRecDepth 100000 in
theorem t_Pg_isInHand (l : Launch) (G : GG) (a : Nat → Nat) (l1 : Int32) (v : V_Pg) (q : Int32) (hf : f_Pg_isInHand l1 v = some q) : MI l G y_Pg_isInHand c_Pg_isInHand 2 (some .boolean) (rmk 1 20) (W_Pg G a v) [.ref (a 0), .int l1] (W_Pg G a v) (q) := by
  refine ofI "FloodDiary$Pages" (by decide +kernel) rfl (Nat.le_of_ble_eq_true rfl) (fun p e s m args below meth c A ls hx hb hr hml hown hts hlk hK hN hA hP hD hS hl => ?_)
  have hl : lv_has ls 2 [(0, .ref (a 0)), (1, .int l1)] := hl
  unfold f_Pg_isInHand at hf
  refine lv_iload_n hx hb d_Pg_isInHand_0 rfl (lv_at hl 1 rfl) ?_
  obtain ⟨q_1, hc_1, hf⟩ := oc_e hf
  refine kcSN (cc := c_Pg_isInHand) (own := "FloodDiary$Pages") (index := 34) (wc := ([] : va_W)) (wr := W_Pg G a v) (wc' := ([] : va_W)) (ws' := W_Pg G a v) hx hb hml hown hts hK hN hA hP hD hS (t_Fd_isPage l G l1 q_1 hc_1) m_Fd_isPage nsM_10 ⟨Nat.le_of_ble_eq_true rfl, Nat.le_of_ble_eq_true rfl⟩ (List.Perm.refl _) (List.Perm.refl _) rfl rfl (Nat.le_of_ble_eq_true rfl) hl.1 d_Pg_isInHand_1 ⟨Nat.zero_le _, Nat.zero_le _⟩ (fun H locs hP hD hS => ?_)
  refine lv_if_eq (tgt := 23) hx hb d_Pg_isInHand_4 (by decide) (fun c_4 => ?_) (fun c_4 => ?_)
  · replace hf := ob_et c_4 hf
    refine lv_iconst (v := (0 : Int32)) hx hb d_Pg_isInHand_23 (by decide) ?_
    cases hf
    exact kZ hx hb hr hlk hP hD hS (Or.inl rfl) d_Pg_isInHand_24
  · replace hf := ob_ef c_4 hf
    refine lv_aload_n hx hb d_Pg_isInHand_7 rfl (lv_at hl 0 rfl) ?_
    refine va_get (D := G.1) (ci := 4) (v := .int v.2.2.2.2) (C := R_Pg) (T := T_Pg) (N := 5) hx hb hts in_Pg hown hK hP 0 rfl rfl 4 (by decide) (hts _ k_37) (fun _ h9 => h9) rfl d_Pg_isInHand_8 ?_
    refine lv_iload_n hx hb d_Pg_isInHand_11 rfl (lv_at hl 1 rfl) ?_
    refine lv_ishr hx hb d_Pg_isInHand_12 ?_
    refine lv_iconst (v := (1 : Int32)) hx hb d_Pg_isInHand_13 (by decide) ?_
    refine lv_iand hx hb d_Pg_isInHand_14 ?_
    refine lv_iconst (v := (1 : Int32)) hx hb d_Pg_isInHand_15 (by decide) ?_
    refine lv_icmp_ne (tgt := 23) hx hb d_Pg_isInHand_16 (by decide) (fun c_16 => ?_) (fun c_16 => ?_)
    · replace hf := ob_ef c_16 hf
      refine lv_iconst (v := (0 : Int32)) hx hb d_Pg_isInHand_23 (by decide) ?_
      cases hf
      exact kZ hx hb hr hlk hP hD hS (Or.inl rfl) d_Pg_isInHand_24
    · replace hf := ob_et c_16 hf
      refine lv_iconst (v := (1 : Int32)) hx hb d_Pg_isInHand_19 (by decide) ?_
      refine lv_goto (tgt := 24) hx hb d_Pg_isInHand_20 (by decide) ?_
      cases hf
      exact kZ hx hb hr hlk hP hD hS (Or.inr rfl) d_Pg_isInHand_24
theorem pm_0 (x0 : va_W) : List.Perm (x0) ((x0) ++ (([] : va_W))) := prm (fun d z => by first | (simp only [List.count_append, List.count_nil]; omega) | simp only [List.count_append, List.count_nil])
set_option maxHeartbeats 4000000 in
set_option maxRecDepth 100000 in
theorem t_Pg_isDirty (l : Launch) (G : GG) (a : Nat → Nat) (l1 : Int32) (v : V_Pg) (q : Int32) (hf : f_Pg_isDirty l1 v = some q) : MI l G y_Pg_isDirty c_Pg_isDirty 2 (some .boolean) (rmk 2 41) (W_Pg G a v) [.ref (a 0), .int l1] (W_Pg G a v) (q) := by
  refine ofI "FloodDiary$Pages" (by decide +kernel) rfl (Nat.le_of_ble_eq_true rfl) (fun p e s m args below meth c A ls hx hb hr hml hown hts hlk hK hN hA hP hD hS hl => ?_)
  have hl : lv_has ls 2 [(0, .ref (a 0)), (1, .int l1)] := hl
  unfold f_Pg_isDirty at hf
  refine lv_aload_n hx hb d_Pg_isDirty_0 rfl (lv_at hl 0 rfl) ?_
  refine lv_iload_n hx hb d_Pg_isDirty_1 rfl (lv_at hl 1 rfl) ?_
  obtain ⟨q_2, hc_2, hf⟩ := oc_e hf
  refine kcV (cc := c_Pg_isDirty) (own := "FloodDiary$Pages") (index := 38) (wc := W_Pg G a v) (wr := ([] : va_W)) (wc' := W_Pg G a v) (ws' := W_Pg G a v) hx hb hml hown hts hK hN hA hP hD hS (t_Pg_isInHand l G a l1 v q_2 hc_2) m_Pg_isInHand k_333 ⟨Nat.le_of_ble_eq_true rfl, Nat.le_of_ble_eq_true rfl⟩ (pm_0 (W_Pg G a v)) (pm_0 (W_Pg G a v)).symm 4 0 rfl rfl rfl rfl rfl (Nat.le_of_ble_eq_true rfl) hl.1 d_Pg_isDirty_2 ⟨Nat.zero_le _, Nat.zero_le _⟩ (fun H locs hP hD hS => ?_)
  refine lv_if_eq (tgt := 27) hx hb d_Pg_isDirty_5 (by decide) (fun c_5 => ?_) (fun c_5 => ?_)
  · replace hf := ob_et c_5 hf
    refine lv_iconst (v := (0 : Int32)) hx hb d_Pg_isDirty_27 (by decide) ?_
    cases hf
    exact kZ hx hb hr hlk hP hD hS (Or.inl rfl) d_Pg_isDirty_28
  · replace hf := ob_ef c_5 hf
    refine lv_aload_n hx hb d_Pg_isDirty_8 rfl (lv_at hl 0 rfl) ?_
    refine va_get (D := G.1) (ci := 4) (v := .ref (a 4)) (C := R_Pg) (T := T_Pg) (N := 5) hx hb hts in_Pg hown hK hP 0 rfl rfl 3 (by decide) (hts _ k_36) (fun _ h9 => h9) rfl d_Pg_isDirty_9 ?_
    refine lv_iload_n hx hb d_Pg_isDirty_12 rfl (lv_at hl 1 rfl) ?_
    obtain ⟨g_13, hf⟩ := og_e hf
    refine va_iald hx hb hK hP 4 0 rfl rfl g_13 d_Pg_isDirty_13 ?_
    refine lv_aload_n hx hb d_Pg_isDirty_14 rfl (lv_at hl 0 rfl) ?_
    refine va_get (D := G.1) (ci := 4) (v := .ref (a 2)) (C := R_Pg) (T := T_Pg) (N := 5) hx hb hts in_Pg hown hK hP 0 rfl rfl 1 (by decide) (hts _ k_34) (fun _ h9 => h9) rfl d_Pg_isDirty_15 ?_
    refine lv_iload_n hx hb d_Pg_isDirty_18 rfl (lv_at hl 1 rfl) ?_
    obtain ⟨g_19, hf⟩ := og_e hf
    refine va_iald hx hb hK hP 2 0 rfl rfl g_19 d_Pg_isDirty_19 ?_
    refine lv_icmp_eq (tgt := 27) hx hb d_Pg_isDirty_20 (by decide) (fun c_20 => ?_) (fun c_20 => ?_)
    · replace hf := ob_et c_20 hf
      refine lv_iconst (v := (0 : Int32)) hx hb d_Pg_isDirty_27 (by decide) ?_
      cases hf
      exact kZ hx hb hr hlk hP hD hS (Or.inl rfl) d_Pg_isDirty_28
    · replace hf := ob_ef c_20 hf
      refine lv_iconst (v := (1 : Int32)) hx hb d_Pg_isDirty_23 (by decide) ?_
      refine lv_goto (tgt := 28) hx hb d_Pg_isDirty_24 (by decide) ?_
      cases hf
      exact kZ hx hb hr hlk hP hD hS (Or.inr rfl) d_Pg_isDirty_28
set_option maxHeartbeats 4000000 in
set_option maxRecDepth 100000 in
theorem t_Pg_dirtySet (l : Launch) (G : GG) (a : Nat → Nat) (v : V_Pg) (q : Int32) (hf : f_Pg_dirtySet v = some q) : MI l G y_Pg_dirtySet c_Pg_dirtySet 3 (some .int) (rmk 3 62) (W_Pg G a v) [.ref (a 0)] (W_Pg G a v) (q) := by
  refine ofI "FloodDiary$Pages" (by decide +kernel) rfl (Nat.le_of_ble_eq_true rfl) (fun p e s m args below meth c A ls hx hb hr hml hown hts hlk hK hN hA hP hD hS hl => ?_)
  have hl : lv_has ls 3 [(0, .ref (a 0))] := hl
  have J_4 : ∀ (n_4 : Nat) (l1 : Int32) (l2 : Int32) (v : V_Pg) (H : Heap) (locs : List Loc) (ls : Array Slot), va_P G.1 vwCl (W_Pg G a v) H → va_D A (W_Pg G a v) → va_S A s.heap H locs → lv_has ls 3 [(0, .ref (a 0)), (1, .int l1), (2, .int l2)] → f_Pg_dirtySet_4 n_4 l1 l2 v = some q → W p l e (rmk 3 62) s m args below meth c H locs 0 0 (MQ below (qI G A (W_Pg G a v) (q)) args s 0 0 A) (F0 m 4 ls []) := by
    intro n_4
    induction n_4 with
    | zero => intro l1 l2 v H locs ls hP hD hS hl hf; exact absurd hf (by unfold f_Pg_dirtySet_4; exact fun z => by cases z)
    | succ n_4 ih_4 =>
      intro l1 l2 v H locs ls hP hD hS hl hf
      rw [f_Pg_dirtySet_4] at hf
      refine lv_iload_n hx hb d_Pg_dirtySet_4 rfl (lv_at hl 2 rfl) ?_
      refine lv_bipush (v := (8 : Int32)) hx hb d_Pg_dirtySet_5 (by decide) ?_
      refine lv_icmp_ge (tgt := 30) hx hb d_Pg_dirtySet_7 (by decide) (fun c_7 => ?_) (fun c_7 => ?_)
      · replace hf := ob_et c_7 hf
        refine lv_iload_n hx hb d_Pg_dirtySet_30 rfl (lv_at hl 1 rfl) ?_
        cases hf
        exact kI hx hb hr hlk hP hD hS d_Pg_dirtySet_31
      · replace hf := ob_ef c_7 hf
        refine lv_aload_n hx hb d_Pg_dirtySet_10 rfl (lv_at hl 0 rfl) ?_
        refine lv_iload_n hx hb d_Pg_dirtySet_11 rfl (lv_at hl 2 rfl) ?_
        obtain ⟨q_12, hc_12, hf⟩ := oc_e hf
        refine kcV (cc := c_Pg_dirtySet) (own := "FloodDiary$Pages") (index := 41) (wc := W_Pg G a v) (wr := ([] : va_W)) (wc' := W_Pg G a v) (ws' := W_Pg G a v) hx hb hml hown hts hK hN hA hP hD hS (t_Pg_isDirty l G a l2 v q_12 hc_12) m_Pg_isDirty k_585 ⟨Nat.le_of_ble_eq_true rfl, Nat.le_of_ble_eq_true rfl⟩ (pm_0 (W_Pg G a v)) (pm_0 (W_Pg G a v)).symm 4 0 rfl rfl rfl rfl rfl (Nat.le_of_ble_eq_true rfl) hl.1 d_Pg_dirtySet_12 ⟨Nat.zero_le _, Nat.zero_le _⟩ (fun H locs hP hD hS => ?_)
        refine lv_if_eq (tgt := 24) hx hb d_Pg_dirtySet_15 (by decide) (fun c_15 => ?_) (fun c_15 => ?_)
        · replace hf := ob_et c_15 hf
          refine lv_iinc (v := (l2 + (1 : Int32))) (lv' := [(2, .int (l2 + (1 : Int32))), (0, .ref (a 0)), (1, .int l1)]) hx hb d_Pg_dirtySet_24 hl (k := 2) rfl rfl (by decide) rfl (fun ls hl => ?_)
          refine lv_goto (tgt := 4) hx hb d_Pg_dirtySet_27 (by decide) ?_
          exact ih_4 l1 (l2 + (1 : Int32)) v _ _ ls hP hD hS (lv_sub hl [1, 2, 0] rfl) hf
        · replace hf := ob_ef c_15 hf
          refine lv_iload_n hx hb d_Pg_dirtySet_18 rfl (lv_at hl 1 rfl) ?_
          refine lv_iconst (v := (1 : Int32)) hx hb d_Pg_dirtySet_19 (by decide) ?_
          refine lv_iload_n hx hb d_Pg_dirtySet_20 rfl (lv_at hl 2 rfl) ?_
          refine lv_ishl hx hb d_Pg_dirtySet_21 ?_
          refine lv_ior hx hb d_Pg_dirtySet_22 ?_
          refine lv_istore_n (lv' := [(1, .int (l1 ||| ((1 : Int32) <<< (l2 &&& 31)))), (0, .ref (a 0)), (2, .int l2)]) hx hb d_Pg_dirtySet_23 rfl hl (by decide) rfl (fun ls hl => ?_)
          refine lv_iinc (v := (l2 + (1 : Int32))) (lv' := [(2, .int (l2 + (1 : Int32))), (1, .int (l1 ||| ((1 : Int32) <<< (l2 &&& 31)))), (0, .ref (a 0))]) hx hb d_Pg_dirtySet_24 hl (k := 2) rfl rfl (by decide) rfl (fun ls hl => ?_)
          refine lv_goto (tgt := 4) hx hb d_Pg_dirtySet_27 (by decide) ?_
          exact ih_4 (l1 ||| ((1 : Int32) <<< (l2 &&& 31))) (l2 + (1 : Int32)) v _ _ ls hP hD hS (lv_sub hl [2, 1, 0] rfl) hf
  unfold f_Pg_dirtySet at hf
  refine lv_iconst (v := (0 : Int32)) hx hb d_Pg_dirtySet_0 (by decide) ?_
  refine lv_istore_n (lv' := [(1, .int (0 : Int32)), (0, .ref (a 0))]) hx hb d_Pg_dirtySet_1 rfl hl (by decide) rfl (fun ls hl => ?_)
  refine lv_iconst (v := (0 : Int32)) hx hb d_Pg_dirtySet_2 (by decide) ?_
  refine lv_istore_n (lv' := [(2, .int (0 : Int32)), (1, .int (0 : Int32)), (0, .ref (a 0))]) hx hb d_Pg_dirtySet_3 rfl hl (by decide) rfl (fun ls hl => ?_)
  exact J_4 FU (0 : Int32) (0 : Int32) v _ _ ls hP hD hS (lv_sub hl [2, 1, 0] rfl) hf
set_option maxHeartbeats 4000000 in
set_option maxRecDepth 100000 in
theorem t_Pg_valueOnShelf (l : Launch) (G : GG) (a : Nat → Nat) (l1 : Int32) (v : V_Pg) (q : Int32) (hf : f_Pg_valueOnShelf l1 v = some q) : MI l G y_Pg_valueOnShelf c_Pg_valueOnShelf 2 (some .int) (rmk 1 20) (W_Pg G a v) [.ref (a 0), .int l1] (W_Pg G a v) (q) := by
  refine ofI "FloodDiary$Pages" (by decide +kernel) rfl (Nat.le_of_ble_eq_true rfl) (fun p e s m args below meth c A ls hx hb hr hml hown hts hlk hK hN hA hP hD hS hl => ?_)
  have hl : lv_has ls 2 [(0, .ref (a 0)), (1, .int l1)] := hl
  unfold f_Pg_valueOnShelf at hf
  refine lv_iload_n hx hb d_Pg_valueOnShelf_0 rfl (lv_at hl 1 rfl) ?_
  obtain ⟨q_1, hc_1, hf⟩ := oc_e hf
  refine kcSN (cc := c_Pg_valueOnShelf) (own := "FloodDiary$Pages") (index := 34) (wc := ([] : va_W)) (wr := W_Pg G a v) (wc' := ([] : va_W)) (ws' := W_Pg G a v) hx hb hml hown hts hK hN hA hP hD hS (t_Fd_isPage l G l1 q_1 hc_1) m_Fd_isPage nsM_10 ⟨Nat.le_of_ble_eq_true rfl, Nat.le_of_ble_eq_true rfl⟩ (List.Perm.refl _) (List.Perm.refl _) rfl rfl (Nat.le_of_ble_eq_true rfl) hl.1 d_Pg_valueOnShelf_1 ⟨Nat.zero_le _, Nat.zero_le _⟩ (fun H locs hP hD hS => ?_)
  refine lv_if_eq (tgt := 16) hx hb d_Pg_valueOnShelf_4 (by decide) (fun c_4 => ?_) (fun c_4 => ?_)
  · replace hf := ob_et c_4 hf
    refine lv_bipush (v := (-6 : Int32)) hx hb d_Pg_valueOnShelf_16 (by decide) ?_
    cases hf
    exact kI hx hb hr hlk hP hD hS d_Pg_valueOnShelf_18
  · replace hf := ob_ef c_4 hf
    refine lv_aload_n hx hb d_Pg_valueOnShelf_7 rfl (lv_at hl 0 rfl) ?_
    refine va_get (D := G.1) (ci := 4) (v := .ref (a 1)) (C := R_Pg) (T := T_Pg) (N := 5) hx hb hts in_Pg hown hK hP 0 rfl rfl 0 (by decide) (hts _ k_33) (fun _ h9 => h9) rfl d_Pg_valueOnShelf_8 ?_
    refine lv_iload_n hx hb d_Pg_valueOnShelf_11 rfl (lv_at hl 1 rfl) ?_
    obtain ⟨g_12, hf⟩ := og_e hf
    refine va_iald hx hb hK hP 1 0 rfl rfl g_12 d_Pg_valueOnShelf_12 ?_
    refine lv_goto (tgt := 18) hx hb d_Pg_valueOnShelf_13 (by decide) ?_
    cases hf
    exact kI hx hb hr hlk hP hD hS d_Pg_valueOnShelf_18
set_option maxHeartbeats 4000000 in
set_option maxRecDepth 100000 in
theorem t_Pg_markOnShelf (l : Launch) (G : GG) (a : Nat → Nat) (l1 : Int32) (v : V_Pg) (q : Int32) (hf : f_Pg_markOnShelf l1 v = some q) : MI l G y_Pg_markOnShelf c_Pg_markOnShelf 2 (some .int) (rmk 1 20) (W_Pg G a v) [.ref (a 0), .int l1] (W_Pg G a v) (q) := by
  refine ofI "FloodDiary$Pages" (by decide +kernel) rfl (Nat.le_of_ble_eq_true rfl) (fun p e s m args below meth c A ls hx hb hr hml hown hts hlk hK hN hA hP hD hS hl => ?_)
  have hl : lv_has ls 2 [(0, .ref (a 0)), (1, .int l1)] := hl
  unfold f_Pg_markOnShelf at hf
  refine lv_iload_n hx hb d_Pg_markOnShelf_0 rfl (lv_at hl 1 rfl) ?_
  obtain ⟨q_1, hc_1, hf⟩ := oc_e hf
  refine kcSN (cc := c_Pg_markOnShelf) (own := "FloodDiary$Pages") (index := 34) (wc := ([] : va_W)) (wr := W_Pg G a v) (wc' := ([] : va_W)) (ws' := W_Pg G a v) hx hb hml hown hts hK hN hA hP hD hS (t_Fd_isPage l G l1 q_1 hc_1) m_Fd_isPage nsM_10 ⟨Nat.le_of_ble_eq_true rfl, Nat.le_of_ble_eq_true rfl⟩ (List.Perm.refl _) (List.Perm.refl _) rfl rfl (Nat.le_of_ble_eq_true rfl) hl.1 d_Pg_markOnShelf_1 ⟨Nat.zero_le _, Nat.zero_le _⟩ (fun H locs hP hD hS => ?_)
  refine lv_if_eq (tgt := 16) hx hb d_Pg_markOnShelf_4 (by decide) (fun c_4 => ?_) (fun c_4 => ?_)
  · replace hf := ob_et c_4 hf
    refine lv_bipush (v := (-6 : Int32)) hx hb d_Pg_markOnShelf_16 (by decide) ?_
    cases hf
    exact kI hx hb hr hlk hP hD hS d_Pg_markOnShelf_18
  · replace hf := ob_ef c_4 hf
    refine lv_aload_n hx hb d_Pg_markOnShelf_7 rfl (lv_at hl 0 rfl) ?_
    refine va_get (D := G.1) (ci := 4) (v := .ref (a 2)) (C := R_Pg) (T := T_Pg) (N := 5) hx hb hts in_Pg hown hK hP 0 rfl rfl 1 (by decide) (hts _ k_34) (fun _ h9 => h9) rfl d_Pg_markOnShelf_8 ?_
    refine lv_iload_n hx hb d_Pg_markOnShelf_11 rfl (lv_at hl 1 rfl) ?_
    obtain ⟨g_12, hf⟩ := og_e hf
    refine va_iald hx hb hK hP 2 0 rfl rfl g_12 d_Pg_markOnShelf_12 ?_
    refine lv_goto (tgt := 18) hx hb d_Pg_markOnShelf_13 (by decide) ?_
    cases hf
    exact kI hx hb hr hlk hP hD hS d_Pg_markOnShelf_18
set_option maxHeartbeats 4000000 in
set_option maxRecDepth 100000 in
theorem t_Pg_valueInHand (l : Launch) (G : GG) (a : Nat → Nat) (l1 : Int32) (v : V_Pg) (q : Int32) (hf : f_Pg_valueInHand l1 v = some q) : MI l G y_Pg_valueInHand c_Pg_valueInHand 2 (some .int) (rmk 2 41) (W_Pg G a v) [.ref (a 0), .int l1] (W_Pg G a v) (q) := by
  refine ofI "FloodDiary$Pages" (by decide +kernel) rfl (Nat.le_of_ble_eq_true rfl) (fun p e s m args below meth c A ls hx hb hr hml hown hts hlk hK hN hA hP hD hS hl => ?_)
  have hl : lv_has ls 2 [(0, .ref (a 0)), (1, .int l1)] := hl
  unfold f_Pg_valueInHand at hf
  refine lv_aload_n hx hb d_Pg_valueInHand_0 rfl (lv_at hl 0 rfl) ?_
  refine lv_iload_n hx hb d_Pg_valueInHand_1 rfl (lv_at hl 1 rfl) ?_
  obtain ⟨q_2, hc_2, hf⟩ := oc_e hf
  refine kcV (cc := c_Pg_valueInHand) (own := "FloodDiary$Pages") (index := 38) (wc := W_Pg G a v) (wr := ([] : va_W)) (wc' := W_Pg G a v) (ws' := W_Pg G a v) hx hb hml hown hts hK hN hA hP hD hS (t_Pg_isInHand l G a l1 v q_2 hc_2) m_Pg_isInHand k_333 ⟨Nat.le_of_ble_eq_true rfl, Nat.le_of_ble_eq_true rfl⟩ (pm_0 (W_Pg G a v)) (pm_0 (W_Pg G a v)).symm 4 0 rfl rfl rfl rfl rfl (Nat.le_of_ble_eq_true rfl) hl.1 d_Pg_valueInHand_2 ⟨Nat.zero_le _, Nat.zero_le _⟩ (fun H locs hP hD hS => ?_)
  refine lv_if_eq (tgt := 17) hx hb d_Pg_valueInHand_5 (by decide) (fun c_5 => ?_) (fun c_5 => ?_)
  · replace hf := ob_et c_5 hf
    refine lv_bipush (v := (-6 : Int32)) hx hb d_Pg_valueInHand_17 (by decide) ?_
    cases hf
    exact kI hx hb hr hlk hP hD hS d_Pg_valueInHand_19
  · replace hf := ob_ef c_5 hf
    refine lv_aload_n hx hb d_Pg_valueInHand_8 rfl (lv_at hl 0 rfl) ?_
    refine va_get (D := G.1) (ci := 4) (v := .ref (a 3)) (C := R_Pg) (T := T_Pg) (N := 5) hx hb hts in_Pg hown hK hP 0 rfl rfl 2 (by decide) (hts _ k_35) (fun _ h9 => h9) rfl d_Pg_valueInHand_9 ?_
    refine lv_iload_n hx hb d_Pg_valueInHand_12 rfl (lv_at hl 1 rfl) ?_
    obtain ⟨g_13, hf⟩ := og_e hf
    refine va_iald hx hb hK hP 3 0 rfl rfl g_13 d_Pg_valueInHand_13 ?_
    refine lv_goto (tgt := 19) hx hb d_Pg_valueInHand_14 (by decide) ?_
    cases hf
    exact kI hx hb hr hlk hP hD hS d_Pg_valueInHand_19
set_option maxHeartbeats 4000000 in
set_option maxRecDepth 100000 in
theorem t_Pg_markInHand (l : Launch) (G : GG) (a : Nat → Nat) (l1 : Int32) (v : V_Pg) (q : Int32) (hf : f_Pg_markInHand l1 v = some q) : MI l G y_Pg_markInHand c_Pg_markInHand 2 (some .int) (rmk 2 41) (W_Pg G a v) [.ref (a 0), .int l1] (W_Pg G a v) (q) := by
  refine ofI "FloodDiary$Pages" (by decide +kernel) rfl (Nat.le_of_ble_eq_true rfl) (fun p e s m args below meth c A ls hx hb hr hml hown hts hlk hK hN hA hP hD hS hl => ?_)
  have hl : lv_has ls 2 [(0, .ref (a 0)), (1, .int l1)] := hl
  unfold f_Pg_markInHand at hf
  refine lv_aload_n hx hb d_Pg_markInHand_0 rfl (lv_at hl 0 rfl) ?_
  refine lv_iload_n hx hb d_Pg_markInHand_1 rfl (lv_at hl 1 rfl) ?_
  obtain ⟨q_2, hc_2, hf⟩ := oc_e hf
  refine kcV (cc := c_Pg_markInHand) (own := "FloodDiary$Pages") (index := 38) (wc := W_Pg G a v) (wr := ([] : va_W)) (wc' := W_Pg G a v) (ws' := W_Pg G a v) hx hb hml hown hts hK hN hA hP hD hS (t_Pg_isInHand l G a l1 v q_2 hc_2) m_Pg_isInHand k_333 ⟨Nat.le_of_ble_eq_true rfl, Nat.le_of_ble_eq_true rfl⟩ (pm_0 (W_Pg G a v)) (pm_0 (W_Pg G a v)).symm 4 0 rfl rfl rfl rfl rfl (Nat.le_of_ble_eq_true rfl) hl.1 d_Pg_markInHand_2 ⟨Nat.zero_le _, Nat.zero_le _⟩ (fun H locs hP hD hS => ?_)
  refine lv_if_eq (tgt := 17) hx hb d_Pg_markInHand_5 (by decide) (fun c_5 => ?_) (fun c_5 => ?_)
  · replace hf := ob_et c_5 hf
    refine lv_bipush (v := (-6 : Int32)) hx hb d_Pg_markInHand_17 (by decide) ?_
    cases hf
    exact kI hx hb hr hlk hP hD hS d_Pg_markInHand_19
  · replace hf := ob_ef c_5 hf
    refine lv_aload_n hx hb d_Pg_markInHand_8 rfl (lv_at hl 0 rfl) ?_
    refine va_get (D := G.1) (ci := 4) (v := .ref (a 4)) (C := R_Pg) (T := T_Pg) (N := 5) hx hb hts in_Pg hown hK hP 0 rfl rfl 3 (by decide) (hts _ k_36) (fun _ h9 => h9) rfl d_Pg_markInHand_9 ?_
    refine lv_iload_n hx hb d_Pg_markInHand_12 rfl (lv_at hl 1 rfl) ?_
    obtain ⟨g_13, hf⟩ := og_e hf
    refine va_iald hx hb hK hP 4 0 rfl rfl g_13 d_Pg_markInHand_13 ?_
    refine lv_goto (tgt := 19) hx hb d_Pg_markInHand_14 (by decide) ?_
    cases hf
    exact kI hx hb hr hlk hP hD hS d_Pg_markInHand_19
set_option maxHeartbeats 4000000 in
set_option maxRecDepth 100000 in
theorem t_Pg_change (l : Launch) (G : GG) (a : Nat → Nat) (l1 : Int32) (l2 : Int32) (l3 : Int32) (v : V_Pg) (q : V_Pg) (hf : f_Pg_change l1 l2 l3 v = some q) : MV l G y_Pg_change c_Pg_change 4 (rmk 1 20) (W_Pg G a v) [.ref (a 0), .int l1, .int l2, .int l3] (W_Pg G a q) := by
  refine ofV "FloodDiary$Pages" (by decide +kernel) rfl (Nat.le_of_ble_eq_true rfl) (fun p e s m args below meth c A ls hx hb hr hml hown hts hlk hK hN hA hP hD hS hl => ?_)
  have hl : lv_has ls 4 [(0, .ref (a 0)), (1, .int l1), (2, .int l2), (3, .int l3)] := hl
  unfold f_Pg_change at hf
  refine lv_iload_n hx hb d_Pg_change_0 rfl (lv_at hl 1 rfl) ?_
  obtain ⟨q_1, hc_1, hf⟩ := oc_e hf
  refine kcSN (cc := c_Pg_change) (own := "FloodDiary$Pages") (index := 34) (wc := ([] : va_W)) (wr := W_Pg G a v) (wc' := ([] : va_W)) (ws' := W_Pg G a v) hx hb hml hown hts hK hN hA hP hD hS (t_Fd_isPage l G l1 q_1 hc_1) m_Fd_isPage nsM_10 ⟨Nat.le_of_ble_eq_true rfl, Nat.le_of_ble_eq_true rfl⟩ (List.Perm.refl _) (List.Perm.refl _) rfl rfl (Nat.le_of_ble_eq_true rfl) hl.1 d_Pg_change_1 ⟨Nat.zero_le _, Nat.zero_le _⟩ (fun H locs hP hD hS => ?_)
  refine lv_if_eq (tgt := 33) hx hb d_Pg_change_4 (by decide) (fun c_4 => ?_) (fun c_4 => ?_)
  · replace hf := ob_et c_4 hf
    cases hf
    exact kV hx hb hr hlk hP hD hS d_Pg_change_33
  · replace hf := ob_ef c_4 hf
    refine lv_aload_n hx hb d_Pg_change_7 rfl (lv_at hl 0 rfl) ?_
    refine va_get (D := G.1) (ci := 4) (v := .ref (a 3)) (C := R_Pg) (T := T_Pg) (N := 5) hx hb hts in_Pg hown hK hP 0 rfl rfl 2 (by decide) (hts _ k_35) (fun _ h9 => h9) rfl d_Pg_change_8 ?_
    refine lv_iload_n hx hb d_Pg_change_11 rfl (lv_at hl 1 rfl) ?_
    refine lv_iload_n hx hb d_Pg_change_12 rfl (lv_at hl 2 rfl) ?_
    obtain ⟨g_13, hf⟩ := og_e hf
    obtain ⟨r_13, er_13, hf⟩ := nx_e hf
    refine va_iast hx hb hK hP hD hS 3 0 rfl rfl g_13 d_Pg_change_13 (fun H locs hP hD hS => ?_)
    rw [← er_13] at hP hD
    have hP : va_P G.1 vwCl (W_Pg G a (v.1, v.2.1, r_13, v.2.2.2.1, v.2.2.2.2)) H := hP
    have hD : va_D A (W_Pg G a (v.1, v.2.1, r_13, v.2.2.2.1, v.2.2.2.2)) := hD
    refine lv_aload_n hx hb d_Pg_change_14 rfl (lv_at hl 0 rfl) ?_
    refine va_get (D := G.1) (ci := 4) (v := .ref (a 4)) (C := R_Pg) (T := T_Pg) (N := 5) hx hb hts in_Pg hown hK hP 0 rfl rfl 3 (by decide) (hts _ k_36) (fun _ h9 => h9) rfl d_Pg_change_15 ?_
    refine lv_iload_n hx hb d_Pg_change_18 rfl (lv_at hl 1 rfl) ?_
    refine lv_iload_n hx hb d_Pg_change_19 rfl (lv_at hl 3 rfl) ?_
    obtain ⟨g_20, hf⟩ := og_e hf
    obtain ⟨r_20, er_20, hf⟩ := nx_e hf
    refine va_iast hx hb hK hP hD hS 4 0 rfl rfl g_20 d_Pg_change_20 (fun H locs hP hD hS => ?_)
    rw [← er_20] at hP hD
    have hP : va_P G.1 vwCl (W_Pg G a (v.1, v.2.1, r_13, r_20, v.2.2.2.2)) H := hP
    have hD : va_D A (W_Pg G a (v.1, v.2.1, r_13, r_20, v.2.2.2.2)) := hD
    refine lv_aload_n hx hb d_Pg_change_21 rfl (lv_at hl 0 rfl) ?_
    refine lv_dup hx hb d_Pg_change_22 rfl ?_
    refine va_get (D := G.1) (ci := 4) (v := .int v.2.2.2.2) (C := R_Pg) (T := T_Pg) (N := 5) hx hb hts in_Pg hown hK hP 0 rfl rfl 4 (by decide) (hts _ k_37) (fun _ h9 => h9) rfl d_Pg_change_23 ?_
    refine lv_iconst (v := (1 : Int32)) hx hb d_Pg_change_26 (by decide) ?_
    refine lv_iload_n hx hb d_Pg_change_27 rfl (lv_at hl 1 rfl) ?_
    refine lv_ishl hx hb d_Pg_change_28 ?_
    refine lv_ior hx hb d_Pg_change_29 ?_
    refine va_put (D := G.1) (ci := 4) (v := .int (v.2.2.2.2 ||| ((1 : Int32) <<< (l1 &&& 31)))) (ty := .int) (C := R_Pg) (T := T_Pg) (N := 5) hx hb hts in_Pg ty_Pg ty_Pg_ok nm_Pg hown hK hP hD hS 0 rfl rfl 4 (by decide) (hts _ k_37) (fun _ h9 => h9) rfl (ty_Pg_ok 4 (by decide)) rfl rfl (Nat.le_of_ble_eq_true rfl) d_Pg_change_30 (fun H locs hP hD hS => ?_)
    have hP : va_P G.1 vwCl (W_Pg G a (v.1, v.2.1, r_13, r_20, (v.2.2.2.2 ||| ((1 : Int32) <<< (l1 &&& 31))))) H := hP
    have hD : va_D A (W_Pg G a (v.1, v.2.1, r_13, r_20, (v.2.2.2.2 ||| ((1 : Int32) <<< (l1 &&& 31))))) := hD
    cases hf
    exact kV hx hb hr hlk hP hD hS d_Pg_change_33
set_option maxHeartbeats 4000000 in
set_option maxRecDepth 100000 in
theorem t_Pg_takeIntoHand (l : Launch) (G : GG) (a : Nat → Nat) (l1 : Int32) (v : V_Pg) (q : V_Pg) (hf : f_Pg_takeIntoHand l1 v = some q) : MV l G y_Pg_takeIntoHand c_Pg_takeIntoHand 2 (rmk 2 43) (W_Pg G a v) [.ref (a 0), .int l1] (W_Pg G a q) := by
  refine ofV "FloodDiary$Pages" (by decide +kernel) rfl (Nat.le_of_ble_eq_true rfl) (fun p e s m args below meth c A ls hx hb hr hml hown hts hlk hK hN hA hP hD hS hl => ?_)
  have hl : lv_has ls 2 [(0, .ref (a 0)), (1, .int l1)] := hl
  unfold f_Pg_takeIntoHand at hf
  refine lv_iload_n hx hb d_Pg_takeIntoHand_0 rfl (lv_at hl 1 rfl) ?_
  obtain ⟨q_1, hc_1, hf⟩ := oc_e hf
  refine kcSN (cc := c_Pg_takeIntoHand) (own := "FloodDiary$Pages") (index := 34) (wc := ([] : va_W)) (wr := W_Pg G a v) (wc' := ([] : va_W)) (ws' := W_Pg G a v) hx hb hml hown hts hK hN hA hP hD hS (t_Fd_isPage l G l1 q_1 hc_1) m_Fd_isPage nsM_10 ⟨Nat.le_of_ble_eq_true rfl, Nat.le_of_ble_eq_true rfl⟩ (List.Perm.refl _) (List.Perm.refl _) rfl rfl (Nat.le_of_ble_eq_true rfl) hl.1 d_Pg_takeIntoHand_1 ⟨Nat.zero_le _, Nat.zero_le _⟩ (fun H locs hP hD hS => ?_)
  refine lv_if_eq (tgt := 32) hx hb d_Pg_takeIntoHand_4 (by decide) (fun c_4 => ?_) (fun c_4 => ?_)
  · replace hf := ob_et c_4 hf
    cases hf
    exact kV hx hb hr hlk hP hD hS d_Pg_takeIntoHand_32
  · replace hf := ob_ef c_4 hf
    refine lv_aload_n hx hb d_Pg_takeIntoHand_7 rfl (lv_at hl 0 rfl) ?_
    refine lv_iload_n hx hb d_Pg_takeIntoHand_8 rfl (lv_at hl 1 rfl) ?_
    obtain ⟨q_9, hc_9, hf⟩ := oc_e hf
    refine kcV (cc := c_Pg_takeIntoHand) (own := "FloodDiary$Pages") (index := 38) (wc := W_Pg G a v) (wr := ([] : va_W)) (wc' := W_Pg G a v) (ws' := W_Pg G a v) hx hb hml hown hts hK hN hA hP hD hS (t_Pg_isInHand l G a l1 v q_9 hc_9) m_Pg_isInHand k_333 ⟨Nat.le_of_ble_eq_true rfl, Nat.le_of_ble_eq_true rfl⟩ (pm_0 (W_Pg G a v)) (pm_0 (W_Pg G a v)).symm 4 0 rfl rfl rfl rfl rfl (Nat.le_of_ble_eq_true rfl) hl.1 d_Pg_takeIntoHand_9 ⟨Nat.zero_le _, Nat.zero_le _⟩ (fun H locs hP hD hS => ?_)
    refine lv_if_ne (tgt := 32) hx hb d_Pg_takeIntoHand_12 (by decide) (fun c_12 => ?_) (fun c_12 => ?_)
    · replace hf := ob_ef c_12 hf
      cases hf
      exact kV hx hb hr hlk hP hD hS d_Pg_takeIntoHand_32
    · replace hf := ob_et c_12 hf
      refine lv_aload_n hx hb d_Pg_takeIntoHand_15 rfl (lv_at hl 0 rfl) ?_
      refine lv_iload_n hx hb d_Pg_takeIntoHand_16 rfl (lv_at hl 1 rfl) ?_
      refine lv_aload_n hx hb d_Pg_takeIntoHand_17 rfl (lv_at hl 0 rfl) ?_
      refine va_get (D := G.1) (ci := 4) (v := .ref (a 1)) (C := R_Pg) (T := T_Pg) (N := 5) hx hb hts in_Pg hown hK hP 0 rfl rfl 0 (by decide) (hts _ k_33) (fun _ h9 => h9) rfl d_Pg_takeIntoHand_18 ?_
      refine lv_iload_n hx hb d_Pg_takeIntoHand_21 rfl (lv_at hl 1 rfl) ?_
      obtain ⟨g_22, hf⟩ := og_e hf
      refine va_iald hx hb hK hP 1 0 rfl rfl g_22 d_Pg_takeIntoHand_22 ?_
      refine lv_aload_n hx hb d_Pg_takeIntoHand_23 rfl (lv_at hl 0 rfl) ?_
      refine va_get (D := G.1) (ci := 4) (v := .ref (a 2)) (C := R_Pg) (T := T_Pg) (N := 5) hx hb hts in_Pg hown hK hP 0 rfl rfl 1 (by decide) (hts _ k_34) (fun _ h9 => h9) rfl d_Pg_takeIntoHand_24 ?_
      refine lv_iload_n hx hb d_Pg_takeIntoHand_27 rfl (lv_at hl 1 rfl) ?_
      obtain ⟨g_28, hf⟩ := og_e hf
      refine va_iald hx hb hK hP 2 0 rfl rfl g_28 d_Pg_takeIntoHand_28 ?_
      obtain ⟨q_29, hc_29, hf⟩ := oc_e hf
      refine kcVv (cc := c_Pg_takeIntoHand) (own := "FloodDiary$Pages") (index := 44) (wc := W_Pg G a v) (wr := ([] : va_W)) (wc' := W_Pg G a q_29) (ws' := W_Pg G a q_29) hx hb hml hown hts hK hN hA hP hD hS (t_Pg_change l G a l1 (v.1 l1.toNatClampNeg) (v.2.1 l1.toNatClampNeg) v q_29 hc_29) m_Pg_change k_337 ⟨Nat.le_of_ble_eq_true rfl, Nat.le_of_ble_eq_true rfl⟩ (pm_0 (W_Pg G a v)) (pm_0 (W_Pg G a q_29)).symm 4 0 rfl rfl rfl rfl rfl (Nat.le_of_ble_eq_true rfl) hl.1 d_Pg_takeIntoHand_29 ⟨Nat.zero_le _, Nat.zero_le _⟩ (fun H locs hP hD hS => ?_)
      cases hf
      exact kV hx hb hr hlk hP hD hS d_Pg_takeIntoHand_32
set_option maxHeartbeats 4000000 in
set_option maxRecDepth 100000 in
theorem t_Pg_shelve (l : Launch) (G : GG) (a : Nat → Nat) (l1 : Int32) (v : V_Pg) (q : V_Pg) (hf : f_Pg_shelve l1 v = some q) : MV l G y_Pg_shelve c_Pg_shelve 2 (rmk 2 41) (W_Pg G a v) [.ref (a 0), .int l1] (W_Pg G a q) := by
  refine ofV "FloodDiary$Pages" (by decide +kernel) rfl (Nat.le_of_ble_eq_true rfl) (fun p e s m args below meth c A ls hx hb hr hml hown hts hlk hK hN hA hP hD hS hl => ?_)
  have hl : lv_has ls 2 [(0, .ref (a 0)), (1, .int l1)] := hl
  unfold f_Pg_shelve at hf
  refine lv_aload_n hx hb d_Pg_shelve_0 rfl (lv_at hl 0 rfl) ?_
  refine lv_iload_n hx hb d_Pg_shelve_1 rfl (lv_at hl 1 rfl) ?_
  obtain ⟨q_2, hc_2, hf⟩ := oc_e hf
  refine kcV (cc := c_Pg_shelve) (own := "FloodDiary$Pages") (index := 38) (wc := W_Pg G a v) (wr := ([] : va_W)) (wc' := W_Pg G a v) (ws' := W_Pg G a v) hx hb hml hown hts hK hN hA hP hD hS (t_Pg_isInHand l G a l1 v q_2 hc_2) m_Pg_isInHand k_333 ⟨Nat.le_of_ble_eq_true rfl, Nat.le_of_ble_eq_true rfl⟩ (pm_0 (W_Pg G a v)) (pm_0 (W_Pg G a v)).symm 4 0 rfl rfl rfl rfl rfl (Nat.le_of_ble_eq_true rfl) hl.1 d_Pg_shelve_2 ⟨Nat.zero_le _, Nat.zero_le _⟩ (fun H locs hP hD hS => ?_)
  refine lv_if_eq (tgt := 32) hx hb d_Pg_shelve_5 (by decide) (fun c_5 => ?_) (fun c_5 => ?_)
  · replace hf := ob_et c_5 hf
    cases hf
    exact kV hx hb hr hlk hP hD hS d_Pg_shelve_32
  · replace hf := ob_ef c_5 hf
    refine lv_aload_n hx hb d_Pg_shelve_8 rfl (lv_at hl 0 rfl) ?_
    refine va_get (D := G.1) (ci := 4) (v := .ref (a 1)) (C := R_Pg) (T := T_Pg) (N := 5) hx hb hts in_Pg hown hK hP 0 rfl rfl 0 (by decide) (hts _ k_33) (fun _ h9 => h9) rfl d_Pg_shelve_9 ?_
    refine lv_iload_n hx hb d_Pg_shelve_12 rfl (lv_at hl 1 rfl) ?_
    refine lv_aload_n hx hb d_Pg_shelve_13 rfl (lv_at hl 0 rfl) ?_
    refine va_get (D := G.1) (ci := 4) (v := .ref (a 3)) (C := R_Pg) (T := T_Pg) (N := 5) hx hb hts in_Pg hown hK hP 0 rfl rfl 2 (by decide) (hts _ k_35) (fun _ h9 => h9) rfl d_Pg_shelve_14 ?_
    refine lv_iload_n hx hb d_Pg_shelve_17 rfl (lv_at hl 1 rfl) ?_
    obtain ⟨g_18, hf⟩ := og_e hf
    refine va_iald hx hb hK hP 3 0 rfl rfl g_18 d_Pg_shelve_18 ?_
    obtain ⟨g_19, hf⟩ := og_e hf
    obtain ⟨r_19, er_19, hf⟩ := nx_e hf
    refine va_iast hx hb hK hP hD hS 1 0 rfl rfl g_19 d_Pg_shelve_19 (fun H locs hP hD hS => ?_)
    rw [← er_19] at hP hD
    have hP : va_P G.1 vwCl (W_Pg G a (r_19, v.2.1, v.2.2.1, v.2.2.2.1, v.2.2.2.2)) H := hP
    have hD : va_D A (W_Pg G a (r_19, v.2.1, v.2.2.1, v.2.2.2.1, v.2.2.2.2)) := hD
    refine lv_aload_n hx hb d_Pg_shelve_20 rfl (lv_at hl 0 rfl) ?_
    refine va_get (D := G.1) (ci := 4) (v := .ref (a 2)) (C := R_Pg) (T := T_Pg) (N := 5) hx hb hts in_Pg hown hK hP 0 rfl rfl 1 (by decide) (hts _ k_34) (fun _ h9 => h9) rfl d_Pg_shelve_21 ?_
    refine lv_iload_n hx hb d_Pg_shelve_24 rfl (lv_at hl 1 rfl) ?_
    refine lv_aload_n hx hb d_Pg_shelve_25 rfl (lv_at hl 0 rfl) ?_
    refine va_get (D := G.1) (ci := 4) (v := .ref (a 4)) (C := R_Pg) (T := T_Pg) (N := 5) hx hb hts in_Pg hown hK hP 0 rfl rfl 3 (by decide) (hts _ k_36) (fun _ h9 => h9) rfl d_Pg_shelve_26 ?_
    refine lv_iload_n hx hb d_Pg_shelve_29 rfl (lv_at hl 1 rfl) ?_
    obtain ⟨g_30, hf⟩ := og_e hf
    refine va_iald hx hb hK hP 4 0 rfl rfl g_30 d_Pg_shelve_30 ?_
    obtain ⟨g_31, hf⟩ := og_e hf
    obtain ⟨r_31, er_31, hf⟩ := nx_e hf
    refine va_iast hx hb hK hP hD hS 2 0 rfl rfl g_31 d_Pg_shelve_31 (fun H locs hP hD hS => ?_)
    rw [← er_31] at hP hD
    have hP : va_P G.1 vwCl (W_Pg G a (r_19, r_31, v.2.2.1, v.2.2.2.1, v.2.2.2.2)) H := hP
    have hD : va_D A (W_Pg G a (r_19, r_31, v.2.2.1, v.2.2.2.1, v.2.2.2.2)) := hD
    cases hf
    exact kV hx hb hr hlk hP hD hS d_Pg_shelve_32
set_option maxHeartbeats 4000000 in
set_option maxRecDepth 100000 in
theorem t_Pg_leaveHand (l : Launch) (G : GG) (a : Nat → Nat) (v : V_Pg) (q : V_Pg) (hf : f_Pg_leaveHand v = some q) : MV l G y_Pg_leaveHand c_Pg_leaveHand 1 (rmk 0 0) (W_Pg G a v) [.ref (a 0)] (W_Pg G a q) := by
  refine ofV "FloodDiary$Pages" (by decide +kernel) rfl (Nat.le_of_ble_eq_true rfl) (fun p e s m args below meth c A ls hx hb hr hml hown hts hlk hK hN hA hP hD hS hl => ?_)
  have hl : lv_has ls 1 [(0, .ref (a 0))] := hl
  unfold f_Pg_leaveHand at hf
  refine lv_aload_n hx hb d_Pg_leaveHand_0 rfl (lv_at hl 0 rfl) ?_
  refine lv_iconst (v := (0 : Int32)) hx hb d_Pg_leaveHand_1 (by decide) ?_
  refine va_put (D := G.1) (ci := 4) (v := .int (0 : Int32)) (ty := .int) (C := R_Pg) (T := T_Pg) (N := 5) hx hb hts in_Pg ty_Pg ty_Pg_ok nm_Pg hown hK hP hD hS 0 rfl rfl 4 (by decide) (hts _ k_37) (fun _ h9 => h9) rfl (ty_Pg_ok 4 (by decide)) rfl rfl (Nat.le_of_ble_eq_true rfl) d_Pg_leaveHand_2 (fun H locs hP hD hS => ?_)
  have hP : va_P G.1 vwCl (W_Pg G a (v.1, v.2.1, v.2.2.1, v.2.2.2.1, (0 : Int32))) H := hP
  have hD : va_D A (W_Pg G a (v.1, v.2.1, v.2.2.1, v.2.2.2.1, (0 : Int32))) := hD
  cases hf
  exact kV hx hb hr hlk hP hD hS d_Pg_leaveHand_5
set_option maxHeartbeats 4000000 in
set_option maxRecDepth 100000 in
theorem t_Pg_highestShelfMark (l : Launch) (G : GG) (a : Nat → Nat) (v : V_Pg) (q : Int32) (hf : f_Pg_highestShelfMark v = some q) : MI l G y_Pg_highestShelfMark c_Pg_highestShelfMark 3 (some .int) (rmk 1 13) (W_Pg G a v) [.ref (a 0)] (W_Pg G a v) (q) := by
  refine ofI "FloodDiary$Pages" (by decide +kernel) rfl (Nat.le_of_ble_eq_true rfl) (fun p e s m args below meth c A ls hx hb hr hml hown hts hlk hK hN hA hP hD hS hl => ?_)
  have hl : lv_has ls 3 [(0, .ref (a 0))] := hl
  have J_4 : ∀ (n_4 : Nat) (l1 : Int32) (l2 : Int32) (v : V_Pg) (H : Heap) (locs : List Loc) (ls : Array Slot), va_P G.1 vwCl (W_Pg G a v) H → va_D A (W_Pg G a v) → va_S A s.heap H locs → lv_has ls 3 [(0, .ref (a 0)), (1, .int l1), (2, .int l2)] → f_Pg_highestShelfMark_4 n_4 l1 l2 v = some q → W p l e (rmk 1 13) s m args below meth c H locs 0 0 (MQ below (qI G A (W_Pg G a v) (q)) args s 0 0 A) (F0 m 4 ls []) := by
    intro n_4
    induction n_4 with
    | zero => intro l1 l2 v H locs ls hP hD hS hl hf; exact absurd hf (by unfold f_Pg_highestShelfMark_4; exact fun z => by cases z)
    | succ n_4 ih_4 =>
      intro l1 l2 v H locs ls hP hD hS hl hf
      rw [f_Pg_highestShelfMark_4] at hf
      refine lv_iload_n hx hb d_Pg_highestShelfMark_4 rfl (lv_at hl 2 rfl) ?_
      refine lv_bipush (v := (8 : Int32)) hx hb d_Pg_highestShelfMark_5 (by decide) ?_
      refine lv_icmp_ge (tgt := 27) hx hb d_Pg_highestShelfMark_7 (by decide) (fun c_7 => ?_) (fun c_7 => ?_)
      · replace hf := ob_et c_7 hf
        refine lv_iload_n hx hb d_Pg_highestShelfMark_27 rfl (lv_at hl 1 rfl) ?_
        cases hf
        exact kI hx hb hr hlk hP hD hS d_Pg_highestShelfMark_28
      · replace hf := ob_ef c_7 hf
        refine lv_iload_n hx hb d_Pg_highestShelfMark_10 rfl (lv_at hl 1 rfl) ?_
        refine lv_aload_n hx hb d_Pg_highestShelfMark_11 rfl (lv_at hl 0 rfl) ?_
        refine va_get (D := G.1) (ci := 4) (v := .ref (a 2)) (C := R_Pg) (T := T_Pg) (N := 5) hx hb hts in_Pg hown hK hP 0 rfl rfl 1 (by decide) (hts _ k_34) (fun _ h9 => h9) rfl d_Pg_highestShelfMark_12 ?_
        refine lv_iload_n hx hb d_Pg_highestShelfMark_15 rfl (lv_at hl 2 rfl) ?_
        obtain ⟨g_16, hf⟩ := og_e hf
        refine va_iald hx hb hK hP 2 0 rfl rfl g_16 d_Pg_highestShelfMark_16 ?_
        refine va_mmax (own := "FloodDiary$Pages") (index := 48) hx hb (hml.trans hl.1.symm) hown (hts _ k_485) (hts _ k_371) (hts _ k_12) (hts _ k_372) (Nat.le_of_ble_eq_true rfl) (Nat.le_of_ble_eq_true rfl) (Nat.zero_le _) (Nat.zero_le _) d_Pg_highestShelfMark_17 ?_
        refine lv_istore_n (lv' := [(1, .int (if l1 < (v.2.1 l2.toNatClampNeg) then (v.2.1 l2.toNatClampNeg) else l1)), (0, .ref (a 0)), (2, .int l2)]) hx hb d_Pg_highestShelfMark_20 rfl hl (by decide) rfl (fun ls hl => ?_)
        refine lv_iinc (v := (l2 + (1 : Int32))) (lv' := [(2, .int (l2 + (1 : Int32))), (1, .int (if l1 < (v.2.1 l2.toNatClampNeg) then (v.2.1 l2.toNatClampNeg) else l1)), (0, .ref (a 0))]) hx hb d_Pg_highestShelfMark_21 hl (k := 2) rfl rfl (by decide) rfl (fun ls hl => ?_)
        refine lv_goto (tgt := 4) hx hb d_Pg_highestShelfMark_24 (by decide) ?_
        exact ih_4 (if l1 < (v.2.1 l2.toNatClampNeg) then (v.2.1 l2.toNatClampNeg) else l1) (l2 + (1 : Int32)) v _ _ ls hP hD hS (lv_sub hl [2, 1, 0] rfl) hf
  unfold f_Pg_highestShelfMark at hf
  refine lv_iconst (v := (0 : Int32)) hx hb d_Pg_highestShelfMark_0 (by decide) ?_
  refine lv_istore_n (lv' := [(1, .int (0 : Int32)), (0, .ref (a 0))]) hx hb d_Pg_highestShelfMark_1 rfl hl (by decide) rfl (fun ls hl => ?_)
  refine lv_iconst (v := (0 : Int32)) hx hb d_Pg_highestShelfMark_2 (by decide) ?_
  refine lv_istore_n (lv' := [(2, .int (0 : Int32)), (1, .int (0 : Int32)), (0, .ref (a 0))]) hx hb d_Pg_highestShelfMark_3 rfl hl (by decide) rfl (fun ls hl => ?_)
  exact J_4 FU (0 : Int32) (0 : Int32) v _ _ ls hP hD hS (lv_sub hl [2, 1, 0] rfl) hf
set_option maxHeartbeats 4000000 in
set_option maxRecDepth 100000 in
theorem t_Pg_become (l : Launch) (G : GG) (a : Nat → Nat) (b : Nat → Nat) (v : V_Pg) (u : V_Pg) (q : V_Pg) (hf : f_Pg_become v u = some q) : MV l G y_Pg_become c_Pg_become 2 (rmk 1 18) (W_Pg G a v ++ W_Pg G b u) [.ref (a 0), .ref (b 0)] (W_Pg G a q ++ W_Pg G b u) := by
  refine ofV "FloodDiary$Pages" (by decide +kernel) rfl (Nat.le_of_ble_eq_true rfl) (fun p e s m args below meth c A ls hx hb hr hml hown hts hlk hK hN hA hP hD hS hl => ?_)
  have hl : lv_has ls 2 [(0, .ref (a 0)), (1, .ref (b 0))] := hl
  unfold f_Pg_become at hf
  refine lv_aload_n hx hb d_Pg_become_0 rfl (lv_at hl 1 rfl) ?_
  refine va_get (D := G.1) (ci := 4) (v := .ref (b 1)) (C := R_Pg) (T := T_Pg) (N := 5) hx hb hts in_Pg hown hK hP 5 rfl rfl 0 (by decide) (hts _ k_33) (fun _ h9 => h9) rfl d_Pg_become_1 ?_
  refine lv_iconst (v := (0 : Int32)) hx hb d_Pg_become_4 (by decide) ?_
  refine lv_aload_n hx hb d_Pg_become_5 rfl (lv_at hl 0 rfl) ?_
  refine va_get (D := G.1) (ci := 4) (v := .ref (a 1)) (C := R_Pg) (T := T_Pg) (N := 5) hx hb hts in_Pg hown hK hP 0 rfl rfl 0 (by decide) (hts _ k_33) (fun _ h9 => h9) rfl d_Pg_become_6 ?_
  refine lv_iconst (v := (0 : Int32)) hx hb d_Pg_become_9 (by decide) ?_
  refine lv_bipush (v := (8 : Int32)) hx hb d_Pg_become_10 (by decide) ?_
  obtain ⟨⟨g1_12, g2_12, g3_12, g4_12, g5_12⟩, hf⟩ := og_e hf
  obtain ⟨r_12, er_12, hf⟩ := nx_e hf
  refine va_copyi (own := "FloodDiary$Pages") (index := 28) (ty := .int) hx hb (hml.trans hl.1.symm) hown (hts _ k_253) (hts _ k_255) (hts _ k_254) (hts _ k_11) hK hP hD hS 6 1 0 0 rfl rfl rfl rfl rfl g1_12 g2_12 g3_12 g4_12 g5_12 (fun _ _ => rfl) (Nat.le_of_ble_eq_true rfl) (Nat.le_of_ble_eq_true rfl) d_Pg_become_12 (fun H locs hP hD hS => ?_)
  rw [← er_12] at hP hD
  have hP : va_P G.1 vwCl (W_Pg G a (r_12, v.2.1, v.2.2.1, v.2.2.2.1, v.2.2.2.2) ++ W_Pg G b u) H := hP
  have hD : va_D A (W_Pg G a (r_12, v.2.1, v.2.2.1, v.2.2.2.1, v.2.2.2.2) ++ W_Pg G b u) := hD
  refine lv_aload_n hx hb d_Pg_become_15 rfl (lv_at hl 1 rfl) ?_
  refine va_get (D := G.1) (ci := 4) (v := .ref (b 2)) (C := R_Pg) (T := T_Pg) (N := 5) hx hb hts in_Pg hown hK hP 5 rfl rfl 1 (by decide) (hts _ k_34) (fun _ h9 => h9) rfl d_Pg_become_16 ?_
  refine lv_iconst (v := (0 : Int32)) hx hb d_Pg_become_19 (by decide) ?_
  refine lv_aload_n hx hb d_Pg_become_20 rfl (lv_at hl 0 rfl) ?_
  refine va_get (D := G.1) (ci := 4) (v := .ref (a 2)) (C := R_Pg) (T := T_Pg) (N := 5) hx hb hts in_Pg hown hK hP 0 rfl rfl 1 (by decide) (hts _ k_34) (fun _ h9 => h9) rfl d_Pg_become_21 ?_
  refine lv_iconst (v := (0 : Int32)) hx hb d_Pg_become_24 (by decide) ?_
  refine lv_bipush (v := (8 : Int32)) hx hb d_Pg_become_25 (by decide) ?_
  obtain ⟨⟨g1_27, g2_27, g3_27, g4_27, g5_27⟩, hf⟩ := og_e hf
  obtain ⟨r_27, er_27, hf⟩ := nx_e hf
  refine va_copyi (own := "FloodDiary$Pages") (index := 28) (ty := .int) hx hb (hml.trans hl.1.symm) hown (hts _ k_253) (hts _ k_255) (hts _ k_254) (hts _ k_11) hK hP hD hS 7 2 0 0 rfl rfl rfl rfl rfl g1_27 g2_27 g3_27 g4_27 g5_27 (fun _ _ => rfl) (Nat.le_of_ble_eq_true rfl) (Nat.le_of_ble_eq_true rfl) d_Pg_become_27 (fun H locs hP hD hS => ?_)
  rw [← er_27] at hP hD
  have hP : va_P G.1 vwCl (W_Pg G a (r_12, r_27, v.2.2.1, v.2.2.2.1, v.2.2.2.2) ++ W_Pg G b u) H := hP
  have hD : va_D A (W_Pg G a (r_12, r_27, v.2.2.1, v.2.2.2.1, v.2.2.2.2) ++ W_Pg G b u) := hD
  refine lv_aload_n hx hb d_Pg_become_30 rfl (lv_at hl 1 rfl) ?_
  refine va_get (D := G.1) (ci := 4) (v := .ref (b 3)) (C := R_Pg) (T := T_Pg) (N := 5) hx hb hts in_Pg hown hK hP 5 rfl rfl 2 (by decide) (hts _ k_35) (fun _ h9 => h9) rfl d_Pg_become_31 ?_
  refine lv_iconst (v := (0 : Int32)) hx hb d_Pg_become_34 (by decide) ?_
  refine lv_aload_n hx hb d_Pg_become_35 rfl (lv_at hl 0 rfl) ?_
  refine va_get (D := G.1) (ci := 4) (v := .ref (a 3)) (C := R_Pg) (T := T_Pg) (N := 5) hx hb hts in_Pg hown hK hP 0 rfl rfl 2 (by decide) (hts _ k_35) (fun _ h9 => h9) rfl d_Pg_become_36 ?_
  refine lv_iconst (v := (0 : Int32)) hx hb d_Pg_become_39 (by decide) ?_
  refine lv_bipush (v := (8 : Int32)) hx hb d_Pg_become_40 (by decide) ?_
  obtain ⟨⟨g1_42, g2_42, g3_42, g4_42, g5_42⟩, hf⟩ := og_e hf
  obtain ⟨r_42, er_42, hf⟩ := nx_e hf
  refine va_copyi (own := "FloodDiary$Pages") (index := 28) (ty := .int) hx hb (hml.trans hl.1.symm) hown (hts _ k_253) (hts _ k_255) (hts _ k_254) (hts _ k_11) hK hP hD hS 8 3 0 0 rfl rfl rfl rfl rfl g1_42 g2_42 g3_42 g4_42 g5_42 (fun _ _ => rfl) (Nat.le_of_ble_eq_true rfl) (Nat.le_of_ble_eq_true rfl) d_Pg_become_42 (fun H locs hP hD hS => ?_)
  rw [← er_42] at hP hD
  have hP : va_P G.1 vwCl (W_Pg G a (r_12, r_27, r_42, v.2.2.2.1, v.2.2.2.2) ++ W_Pg G b u) H := hP
  have hD : va_D A (W_Pg G a (r_12, r_27, r_42, v.2.2.2.1, v.2.2.2.2) ++ W_Pg G b u) := hD
  refine lv_aload_n hx hb d_Pg_become_45 rfl (lv_at hl 1 rfl) ?_
  refine va_get (D := G.1) (ci := 4) (v := .ref (b 4)) (C := R_Pg) (T := T_Pg) (N := 5) hx hb hts in_Pg hown hK hP 5 rfl rfl 3 (by decide) (hts _ k_36) (fun _ h9 => h9) rfl d_Pg_become_46 ?_
  refine lv_iconst (v := (0 : Int32)) hx hb d_Pg_become_49 (by decide) ?_
  refine lv_aload_n hx hb d_Pg_become_50 rfl (lv_at hl 0 rfl) ?_
  refine va_get (D := G.1) (ci := 4) (v := .ref (a 4)) (C := R_Pg) (T := T_Pg) (N := 5) hx hb hts in_Pg hown hK hP 0 rfl rfl 3 (by decide) (hts _ k_36) (fun _ h9 => h9) rfl d_Pg_become_51 ?_
  refine lv_iconst (v := (0 : Int32)) hx hb d_Pg_become_54 (by decide) ?_
  refine lv_bipush (v := (8 : Int32)) hx hb d_Pg_become_55 (by decide) ?_
  obtain ⟨⟨g1_57, g2_57, g3_57, g4_57, g5_57⟩, hf⟩ := og_e hf
  obtain ⟨r_57, er_57, hf⟩ := nx_e hf
  refine va_copyi (own := "FloodDiary$Pages") (index := 28) (ty := .int) hx hb (hml.trans hl.1.symm) hown (hts _ k_253) (hts _ k_255) (hts _ k_254) (hts _ k_11) hK hP hD hS 9 4 0 0 rfl rfl rfl rfl rfl g1_57 g2_57 g3_57 g4_57 g5_57 (fun _ _ => rfl) (Nat.le_of_ble_eq_true rfl) (Nat.le_of_ble_eq_true rfl) d_Pg_become_57 (fun H locs hP hD hS => ?_)
  rw [← er_57] at hP hD
  have hP : va_P G.1 vwCl (W_Pg G a (r_12, r_27, r_42, r_57, v.2.2.2.2) ++ W_Pg G b u) H := hP
  have hD : va_D A (W_Pg G a (r_12, r_27, r_42, r_57, v.2.2.2.2) ++ W_Pg G b u) := hD
  refine lv_aload_n hx hb d_Pg_become_60 rfl (lv_at hl 0 rfl) ?_
  refine lv_aload_n hx hb d_Pg_become_61 rfl (lv_at hl 1 rfl) ?_
  refine va_get (D := G.1) (ci := 4) (v := .int u.2.2.2.2) (C := R_Pg) (T := T_Pg) (N := 5) hx hb hts in_Pg hown hK hP 5 rfl rfl 4 (by decide) (hts _ k_37) (fun _ h9 => h9) rfl d_Pg_become_62 ?_
  refine va_put (D := G.1) (ci := 4) (v := .int u.2.2.2.2) (ty := .int) (C := R_Pg) (T := T_Pg) (N := 5) hx hb hts in_Pg ty_Pg ty_Pg_ok nm_Pg hown hK hP hD hS 0 rfl rfl 4 (by decide) (hts _ k_37) (fun _ h9 => h9) rfl (ty_Pg_ok 4 (by decide)) rfl rfl (Nat.le_of_ble_eq_true rfl) d_Pg_become_65 (fun H locs hP hD hS => ?_)
  have hP : va_P G.1 vwCl (W_Pg G a (r_12, r_27, r_42, r_57, u.2.2.2.2) ++ W_Pg G b u) H := hP
  have hD : va_D A (W_Pg G a (r_12, r_27, r_42, r_57, u.2.2.2.2) ++ W_Pg G b u) := hD
  cases hf
  exact kV hx hb hr hlk hP hD hS d_Pg_become_68
