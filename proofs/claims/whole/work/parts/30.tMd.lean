set_option maxHeartbeats 4000000 in
set_option maxRecDepth 100000 in
theorem t_Md_in (l : Launch) (G : GG) (l0 : Int64) (l2 : Int64) (l4 : Int64) (q : Int32) (hf : f_Md_in l0 l2 l4 = some q) : MI l G y_Md_in c_Md_in 6 (some .boolean) (rmk 0 0) (([] : va_W)) [.long l0, .long l2, .long l4] (([] : va_W)) (q) := by
  refine ofI "FloodDiaryModel" (by decide +kernel) rfl (Nat.le_of_ble_eq_true rfl) (fun p e s m args below meth c A ls hx hb hr hml hown hts hlk hK hN hA hP hD hS hl => ?_)
  have hl : lv_has ls 6 [(0, .long l0), (2, .long l2), (4, .long l4)] := hl
  unfold f_Md_in at hf
  refine lv_lload_n hx hb d_Md_in_0 rfl (lv_at hl 0 rfl) ?_
  refine lv_lload_n hx hb d_Md_in_1 rfl (lv_at hl 1 rfl) ?_
  refine W.lcmp hx hb d_Md_in_2 ?_
  refine lv_if_lt (tgt := 17) hx hb d_Md_in_3 (by decide) (fun c_3 => ?_) (fun c_3 => ?_)
  · replace hf := ob_et c_3 hf
    refine lv_iconst (v := (0 : Int32)) hx hb d_Md_in_17 (by decide) ?_
    cases hf
    exact kZ hx hb hr hlk hP hD hS (Or.inl rfl) d_Md_in_18
  · replace hf := ob_ef c_3 hf
    refine lv_lload_n hx hb d_Md_in_6 rfl (lv_at hl 0 rfl) ?_
    refine lv_lload hx hb d_Md_in_7 (lv_at hl 2 rfl) ?_
    refine W.lcmp hx hb d_Md_in_9 ?_
    refine lv_if_gt (tgt := 17) hx hb d_Md_in_10 (by decide) (fun c_10 => ?_) (fun c_10 => ?_)
    · replace hf := ob_et c_10 hf
      refine lv_iconst (v := (0 : Int32)) hx hb d_Md_in_17 (by decide) ?_
      cases hf
      exact kZ hx hb hr hlk hP hD hS (Or.inl rfl) d_Md_in_18
    · replace hf := ob_ef c_10 hf
      refine lv_iconst (v := (1 : Int32)) hx hb d_Md_in_13 (by decide) ?_
      refine lv_goto (tgt := 18) hx hb d_Md_in_14 (by decide) ?_
      cases hf
      exact kZ hx hb hr hlk hP hD hS (Or.inr rfl) d_Md_in_18
set_option maxHeartbeats 4000000 in
set_option maxRecDepth 100000 in
theorem t_Md_copyState (l : Launch) (G : GG) (a : Nat) (b : Nat) (n1 : Nat) (n2 : Nat) (l1 : Int32) (l3 : Int32) (f : (Nat → Int32)) (g : (Nat → Int32)) (q : (Nat → Int32)) (hf : f_Md_copyState n1 n2 l1 l3 f g = some q) : MV l G y_Md_copyState c_Md_copyState 5 (rmk 0 0) (W_Row G n1 a f ++ W_Row G n2 b g) [.ref a, .int l1, .ref b, .int l3] (W_Row G n1 a f ++ W_Row G n2 b q) := by
  refine ofV "FloodDiaryModel" (by decide +kernel) rfl (Nat.le_of_ble_eq_true rfl) (fun p e s m args below meth c A ls hx hb hr hml hown hts hlk hK hN hA hP hD hS hl => ?_)
  have hl : lv_has ls 5 [(0, .ref a), (1, .int l1), (2, .ref b), (3, .int l3)] := hl
  have J_3 : ∀ (n_3 : Nat) (l1 : Int32) (l3 : Int32) (l4 : Int32) (f : (Nat → Int32)) (g : (Nat → Int32)) (H : Heap) (locs : List Loc) (ls : Array Slot), va_P G.1 vwCl (W_Row G n1 a f ++ W_Row G n2 b g) H → va_D A (W_Row G n1 a f ++ W_Row G n2 b g) → va_S A s.heap H locs → lv_has ls 5 [(0, .ref a), (1, .int l1), (2, .ref b), (3, .int l3), (4, .int l4)] → f_Md_copyState_3 n1 n2 n_3 l1 l3 l4 f g = some q → W p l e (rmk 0 0) s m args below meth c H locs 0 0 (MQ below (qV G A (W_Row G n1 a f ++ W_Row G n2 b q)) args s 0 0 A) (F0 m 3 ls []) := by
    intro n_3
    induction n_3 with
    | zero => intro l1 l3 l4 f g H locs ls hP hD hS hl hf; exact absurd hf (by unfold f_Md_copyState_3; exact fun z => by cases z)
    | succ n_3 ih_3 =>
      intro l1 l3 l4 f g H locs ls hP hD hS hl hf
      rw [f_Md_copyState_3] at hf
      refine lv_iload hx hb d_Md_copyState_3 (lv_at hl 4 rfl) ?_
      refine lv_sipush (v := (2400 : Int32)) hx hb d_Md_copyState_5 (by decide) ?_
      refine lv_icmp_ge (tgt := 29) hx hb d_Md_copyState_8 (by decide) (fun c_8 => ?_) (fun c_8 => ?_)
      · replace hf := ob_et c_8 hf
        cases hf
        exact kV hx hb hr hlk hP hD hS d_Md_copyState_29
      · replace hf := ob_ef c_8 hf
        refine lv_aload_n hx hb d_Md_copyState_11 rfl (lv_at hl 2 rfl) ?_
        refine lv_iload_n hx hb d_Md_copyState_12 rfl (lv_at hl 3 rfl) ?_
        refine lv_iload hx hb d_Md_copyState_13 (lv_at hl 4 rfl) ?_
        refine lv_iadd hx hb d_Md_copyState_15 ?_
        refine lv_aload_n hx hb d_Md_copyState_16 rfl (lv_at hl 0 rfl) ?_
        refine lv_iload_n hx hb d_Md_copyState_17 rfl (lv_at hl 1 rfl) ?_
        refine lv_iload hx hb d_Md_copyState_18 (lv_at hl 4 rfl) ?_
        refine lv_iadd hx hb d_Md_copyState_20 ?_
        obtain ⟨g_21, hf⟩ := og_e hf
        refine va_iald hx hb hK hP 0 0 rfl rfl g_21 d_Md_copyState_21 ?_
        obtain ⟨g_22, hf⟩ := og_e hf
        obtain ⟨r_22, er_22, hf⟩ := nx_e hf
        refine va_iast hx hb hK hP hD hS 1 0 rfl rfl g_22 d_Md_copyState_22 (fun H locs hP hD hS => ?_)
        rw [← er_22] at hP hD
        have hP : va_P G.1 vwCl (W_Row G n1 a f ++ W_Row G n2 b r_22) H := hP
        have hD : va_D A (W_Row G n1 a f ++ W_Row G n2 b r_22) := hD
        refine lv_iinc (v := (l4 + (1 : Int32))) (lv' := [(4, .int (l4 + (1 : Int32))), (0, .ref a), (1, .int l1), (2, .ref b), (3, .int l3)]) hx hb d_Md_copyState_23 hl (k := 4) rfl rfl (by decide) rfl (fun ls hl => ?_)
        refine lv_goto (tgt := 3) hx hb d_Md_copyState_26 (by decide) ?_
        exact ih_3 l1 l3 (l4 + (1 : Int32)) f r_22 _ _ ls hP hD hS (lv_sub hl [1, 2, 3, 4, 0] rfl) hf
  unfold f_Md_copyState at hf
  refine lv_iconst (v := (0 : Int32)) hx hb d_Md_copyState_0 (by decide) ?_
  refine lv_istore (lv' := [(4, .int (0 : Int32)), (0, .ref a), (1, .int l1), (2, .ref b), (3, .int l3)]) hx hb d_Md_copyState_1 hl (by decide) rfl (fun ls hl => ?_)
  exact J_3 FU l1 l3 (0 : Int32) f g _ _ ls hP hD hS (lv_sub hl [1, 2, 3, 4, 0] rfl) hf
set_option maxHeartbeats 4000000 in
set_option maxRecDepth 100000 in
theorem t_Md_isPage (l : Launch) (G : GG) (l0 : Int32) (q : Int32) (hf : f_Md_isPage l0 = some q) : MI l G y_Md_isPage c_Md_isPage 1 (some .boolean) (rmk 1 25) (([] : va_W)) [.int l0] (([] : va_W)) (q) := by
  refine ofI "FloodDiaryModel" (by decide +kernel) rfl (Nat.le_of_ble_eq_true rfl) (fun p e s m args below meth c A ls hx hb hr hml hown hts hlk hK hN hA hP hD hS hl => ?_)
  have hl : lv_has ls 1 [(0, .int l0)] := hl
  unfold f_Md_isPage at hf
  refine lv_iload_n hx hb d_Md_isPage_0 rfl (lv_at hl 0 rfl) ?_
  refine lv_i2l (v := l0.toInt64) hx hb d_Md_isPage_1 rfl ?_
  refine lv_lconst (v := (0 : Int64)) hx hb d_Md_isPage_2 (by decide) ?_
  refine lv_ldc2 (v := (7 : Int64)) hx hb hown (hts _ k_824) d_Md_isPage_3 ?_
  obtain ⟨q_6, hc_6, hf⟩ := oc_e hf
  refine kcS (cc := c_Md_isPage) (own := "FloodDiaryModel") (index := 35) (wc := ([] : va_W)) (wr := ([] : va_W)) (wc' := ([] : va_W)) (ws' := ([] : va_W)) hx hb hml hown hts hK hN hA hP hD hS (t_Md_in l G l0.toInt64 (0 : Int64) (7 : Int64) q_6 hc_6) m_Md_in k_818 ⟨Nat.le_of_ble_eq_true rfl, Nat.le_of_ble_eq_true rfl⟩ (List.Perm.refl _) (List.Perm.refl _) rfl rfl (Nat.le_of_ble_eq_true rfl) hl.1 d_Md_isPage_6 ⟨Nat.zero_le _, Nat.zero_le _⟩ (fun H locs hP hD hS => ?_)
  obtain ⟨g_9, hf⟩ := og_e hf
  cases hf
  exact kZ hx hb hr hlk hP hD hS g_9 d_Md_isPage_9
set_option maxHeartbeats 4000000 in
set_option maxRecDepth 100000 in
theorem t_Md_isWork (l : Launch) (G : GG) (a : Nat) (l1 : Int32) (f : (Nat → Int32)) (q : Int32) (hf : f_Md_isWork l1 f = some q) : MI l G y_Md_isWork c_Md_isWork 2 (some .boolean) (rmk 1 25) (W_Row G 2400 a f) [.ref a, .int l1] (W_Row G 2400 a f) (q) := by
  refine ofI "FloodDiaryModel" (by decide +kernel) rfl (Nat.le_of_ble_eq_true rfl) (fun p e s m args below meth c A ls hx hb hr hml hown hts hlk hK hN hA hP hD hS hl => ?_)
  have hl : lv_has ls 2 [(0, .ref a), (1, .int l1)] := hl
  unfold f_Md_isWork at hf
  refine lv_iload_n hx hb d_Md_isWork_0 rfl (lv_at hl 1 rfl) ?_
  refine lv_i2l (v := l1.toInt64) hx hb d_Md_isWork_1 rfl ?_
  refine lv_lconst (v := (0 : Int64)) hx hb d_Md_isWork_2 (by decide) ?_
  refine lv_aload_n hx hb d_Md_isWork_3 rfl (lv_at hl 0 rfl) ?_
  refine lv_bipush (v := (56 : Int32)) hx hb d_Md_isWork_4 (by decide) ?_
  obtain ⟨g_6, hf⟩ := og_e hf
  refine va_iald hx hb hK hP 0 0 rfl rfl g_6 d_Md_isWork_6 ?_
  refine lv_iconst (v := (1 : Int32)) hx hb d_Md_isWork_7 (by decide) ?_
  refine lv_isub hx hb d_Md_isWork_8 ?_
  refine lv_i2l (v := ((f (56 : Int32).toNatClampNeg) - (1 : Int32)).toInt64) hx hb d_Md_isWork_9 rfl ?_
  obtain ⟨q_10, hc_10, hf⟩ := oc_e hf
  refine kcS (cc := c_Md_isWork) (own := "FloodDiaryModel") (index := 35) (wc := ([] : va_W)) (wr := W_Row G 2400 a f) (wc' := ([] : va_W)) (ws' := W_Row G 2400 a f) hx hb hml hown hts hK hN hA hP hD hS (t_Md_in l G l1.toInt64 (0 : Int64) (((f (56 : Int32).toNatClampNeg) - (1 : Int32)).toInt64) q_10 hc_10) m_Md_in k_818 ⟨Nat.le_of_ble_eq_true rfl, Nat.le_of_ble_eq_true rfl⟩ (List.Perm.refl _) (List.Perm.refl _) rfl rfl (Nat.le_of_ble_eq_true rfl) hl.1 d_Md_isWork_10 ⟨Nat.zero_le _, Nat.zero_le _⟩ (fun H locs hP hD hS => ?_)
  obtain ⟨g_13, hf⟩ := og_e hf
  cases hf
  exact kZ hx hb hr hlk hP hD hS g_13 d_Md_isWork_13
set_option maxHeartbeats 4000000 in
set_option maxRecDepth 100000 in
theorem t_Md_at (l : Launch) (G : GG) (l0 : Int32) (q : Int32) (hf : f_Md_at l0 = some q) : MI l G y_Md_at c_Md_at 1 (some .int) (rmk 0 0) (([] : va_W)) [.int l0] (([] : va_W)) (q) := by
  refine ofI "FloodDiaryModel" (by decide +kernel) rfl (Nat.le_of_ble_eq_true rfl) (fun p e s m args below meth c A ls hx hb hr hml hown hts hlk hK hN hA hP hD hS hl => ?_)
  have hl : lv_has ls 1 [(0, .int l0)] := hl
  unfold f_Md_at at hf
  refine lv_bipush (v := (67 : Int32)) hx hb d_Md_at_0 (by decide) ?_
  refine lv_bipush (v := (7 : Int32)) hx hb d_Md_at_2 (by decide) ?_
  refine lv_iload_n hx hb d_Md_at_4 rfl (lv_at hl 0 rfl) ?_
  refine lv_iconst (v := (1 : Int32)) hx hb d_Md_at_5 (by decide) ?_
  refine lv_isub hx hb d_Md_at_6 ?_
  refine lv_imul hx hb d_Md_at_7 ?_
  refine lv_iadd hx hb d_Md_at_8 ?_
  cases hf
  exact kI hx hb hr hlk hP hD hS d_Md_at_9
set_option maxHeartbeats 4000000 in
set_option maxRecDepth 100000 in
theorem t_Md_takeInHand (l : Launch) (G : GG) (a : Nat) (l1 : Int32) (f : (Nat → Int32)) (q : (Nat → Int32)) (hf : f_Md_takeInHand l1 f = some q) : MV l G y_Md_takeInHand c_Md_takeInHand 2 (rmk 0 0) (W_Row G 2400 a f) [.ref a, .int l1] (W_Row G 2400 a q) := by
  refine ofV "FloodDiaryModel" (by decide +kernel) rfl (Nat.le_of_ble_eq_true rfl) (fun p e s m args below meth c A ls hx hb hr hml hown hts hlk hK hN hA hP hD hS hl => ?_)
  have hl : lv_has ls 2 [(0, .ref a), (1, .int l1)] := hl
  unfold f_Md_takeInHand at hf
  refine lv_aload_n hx hb d_Md_takeInHand_0 rfl (lv_at hl 0 rfl) ?_
  refine lv_bipush (v := (16 : Int32)) hx hb d_Md_takeInHand_1 (by decide) ?_
  refine lv_iload_n hx hb d_Md_takeInHand_3 rfl (lv_at hl 1 rfl) ?_
  refine lv_iadd hx hb d_Md_takeInHand_4 ?_
  obtain ⟨g_5, hf⟩ := og_e hf
  refine va_iald hx hb hK hP 0 0 rfl rfl g_5 d_Md_takeInHand_5 ?_
  refine lv_if_ne (tgt := 39) hx hb d_Md_takeInHand_6 (by decide) (fun c_6 => ?_) (fun c_6 => ?_)
  · replace hf := ob_ef c_6 hf
    cases hf
    exact kV hx hb hr hlk hP hD hS d_Md_takeInHand_39
  · replace hf := ob_et c_6 hf
    refine lv_aload_n hx hb d_Md_takeInHand_9 rfl (lv_at hl 0 rfl) ?_
    refine lv_bipush (v := (16 : Int32)) hx hb d_Md_takeInHand_10 (by decide) ?_
    refine lv_iload_n hx hb d_Md_takeInHand_12 rfl (lv_at hl 1 rfl) ?_
    refine lv_iadd hx hb d_Md_takeInHand_13 ?_
    refine lv_iconst (v := (1 : Int32)) hx hb d_Md_takeInHand_14 (by decide) ?_
    obtain ⟨g_15, hf⟩ := og_e hf
    obtain ⟨r_15, er_15, hf⟩ := nx_e hf
    refine va_iast hx hb hK hP hD hS 0 0 rfl rfl g_15 d_Md_takeInHand_15 (fun H locs hP hD hS => ?_)
    rw [← er_15] at hP hD
    have hP : va_P G.1 vwCl (W_Row G 2400 a r_15) H := hP
    have hD : va_D A (W_Row G 2400 a r_15) := hD
    refine lv_aload_n hx hb d_Md_takeInHand_16 rfl (lv_at hl 0 rfl) ?_
    refine lv_bipush (v := (24 : Int32)) hx hb d_Md_takeInHand_17 (by decide) ?_
    refine lv_iload_n hx hb d_Md_takeInHand_19 rfl (lv_at hl 1 rfl) ?_
    refine lv_iadd hx hb d_Md_takeInHand_20 ?_
    refine lv_aload_n hx hb d_Md_takeInHand_21 rfl (lv_at hl 0 rfl) ?_
    refine lv_iconst (v := (0 : Int32)) hx hb d_Md_takeInHand_22 (by decide) ?_
    refine lv_iload_n hx hb d_Md_takeInHand_23 rfl (lv_at hl 1 rfl) ?_
    refine lv_iadd hx hb d_Md_takeInHand_24 ?_
    obtain ⟨g_25, hf⟩ := og_e hf
    refine va_iald hx hb hK hP 0 0 rfl rfl g_25 d_Md_takeInHand_25 ?_
    obtain ⟨g_26, hf⟩ := og_e hf
    obtain ⟨r_26, er_26, hf⟩ := nx_e hf
    refine va_iast hx hb hK hP hD hS 0 0 rfl rfl g_26 d_Md_takeInHand_26 (fun H locs hP hD hS => ?_)
    rw [← er_26] at hP hD
    have hP : va_P G.1 vwCl (W_Row G 2400 a r_26) H := hP
    have hD : va_D A (W_Row G 2400 a r_26) := hD
    refine lv_aload_n hx hb d_Md_takeInHand_27 rfl (lv_at hl 0 rfl) ?_
    refine lv_bipush (v := (32 : Int32)) hx hb d_Md_takeInHand_28 (by decide) ?_
    refine lv_iload_n hx hb d_Md_takeInHand_30 rfl (lv_at hl 1 rfl) ?_
    refine lv_iadd hx hb d_Md_takeInHand_31 ?_
    refine lv_aload_n hx hb d_Md_takeInHand_32 rfl (lv_at hl 0 rfl) ?_
    refine lv_bipush (v := (8 : Int32)) hx hb d_Md_takeInHand_33 (by decide) ?_
    refine lv_iload_n hx hb d_Md_takeInHand_35 rfl (lv_at hl 1 rfl) ?_
    refine lv_iadd hx hb d_Md_takeInHand_36 ?_
    obtain ⟨g_37, hf⟩ := og_e hf
    refine va_iald hx hb hK hP 0 0 rfl rfl g_37 d_Md_takeInHand_37 ?_
    obtain ⟨g_38, hf⟩ := og_e hf
    obtain ⟨r_38, er_38, hf⟩ := nx_e hf
    refine va_iast hx hb hK hP hD hS 0 0 rfl rfl g_38 d_Md_takeInHand_38 (fun H locs hP hD hS => ?_)
    rw [← er_38] at hP hD
    have hP : va_P G.1 vwCl (W_Row G 2400 a r_38) H := hP
    have hD : va_D A (W_Row G 2400 a r_38) := hD
    cases hf
    exact kV hx hb hr hlk hP hD hS d_Md_takeInHand_39
set_option maxHeartbeats 4000000 in
set_option maxRecDepth 100000 in
theorem t_Md_change (l : Launch) (G : GG) (a : Nat) (l1 : Int32) (l2 : Int32) (l3 : Int32) (f : (Nat → Int32)) (q : (Nat → Int32)) (hf : f_Md_change l1 l2 l3 f = some q) : MV l G y_Md_change c_Md_change 4 (rmk 1 21) (W_Row G 2400 a f) [.ref a, .int l1, .int l2, .int l3] (W_Row G 2400 a q) := by
  refine ofV "FloodDiaryModel" (by decide +kernel) rfl (Nat.le_of_ble_eq_true rfl) (fun p e s m args below meth c A ls hx hb hr hml hown hts hlk hK hN hA hP hD hS hl => ?_)
  have hl : lv_has ls 4 [(0, .ref a), (1, .int l1), (2, .int l2), (3, .int l3)] := hl
  unfold f_Md_change at hf
  refine lv_aload_n hx hb d_Md_change_0 rfl (lv_at hl 0 rfl) ?_
  refine lv_iload_n hx hb d_Md_change_1 rfl (lv_at hl 1 rfl) ?_
  obtain ⟨q_2, hc_2, hf⟩ := oc_e hf
  refine kcSv (cc := c_Md_change) (own := "FloodDiaryModel") (index := 39) (wc := W_Row G 2400 a f) (wr := ([] : va_W)) (wc' := W_Row G 2400 a q_2) (ws' := W_Row G 2400 a q_2) hx hb hml hown hts hK hN hA hP hD hS (t_Md_takeInHand l G a l1 f q_2 hc_2) m_Md_takeInHand k_838 ⟨Nat.le_of_ble_eq_true rfl, Nat.le_of_ble_eq_true rfl⟩ (pm_0 (W_Row G 2400 a f)) (pm_0 (W_Row G 2400 a q_2)).symm rfl rfl (Nat.le_of_ble_eq_true rfl) hl.1 d_Md_change_2 ⟨Nat.zero_le _, Nat.zero_le _⟩ (fun H locs hP hD hS => ?_)
  refine lv_aload_n hx hb d_Md_change_5 rfl (lv_at hl 0 rfl) ?_
  refine lv_bipush (v := (24 : Int32)) hx hb d_Md_change_6 (by decide) ?_
  refine lv_iload_n hx hb d_Md_change_8 rfl (lv_at hl 1 rfl) ?_
  refine lv_iadd hx hb d_Md_change_9 ?_
  refine lv_iload_n hx hb d_Md_change_10 rfl (lv_at hl 2 rfl) ?_
  obtain ⟨g_11, hf⟩ := og_e hf
  obtain ⟨r_11, er_11, hf⟩ := nx_e hf
  refine va_iast hx hb hK hP hD hS 0 0 rfl rfl g_11 d_Md_change_11 (fun H locs hP hD hS => ?_)
  rw [← er_11] at hP hD
  have hP : va_P G.1 vwCl (W_Row G 2400 a r_11) H := hP
  have hD : va_D A (W_Row G 2400 a r_11) := hD
  refine lv_aload_n hx hb d_Md_change_12 rfl (lv_at hl 0 rfl) ?_
  refine lv_bipush (v := (32 : Int32)) hx hb d_Md_change_13 (by decide) ?_
  refine lv_iload_n hx hb d_Md_change_15 rfl (lv_at hl 1 rfl) ?_
  refine lv_iadd hx hb d_Md_change_16 ?_
  refine lv_iload_n hx hb d_Md_change_17 rfl (lv_at hl 3 rfl) ?_
  obtain ⟨g_18, hf⟩ := og_e hf
  obtain ⟨r_18, er_18, hf⟩ := nx_e hf
  refine va_iast hx hb hK hP hD hS 0 0 rfl rfl g_18 d_Md_change_18 (fun H locs hP hD hS => ?_)
  rw [← er_18] at hP hD
  have hP : va_P G.1 vwCl (W_Row G 2400 a r_18) H := hP
  have hD : va_D A (W_Row G 2400 a r_18) := hD
  cases hf
  exact kV hx hb hr hlk hP hD hS d_Md_change_19
set_option maxHeartbeats 4000000 in
set_option maxRecDepth 100000 in
theorem t_Md_lastOf (l : Launch) (G : GG) (a : Nat) (l1 : Int32) (f : (Nat → Int32)) (q : Int32) (hf : f_Md_lastOf l1 f = some q) : MI l G y_Md_lastOf c_Md_lastOf 3 (some .int) (rmk 1 20) (W_Row G 2400 a f) [.ref a, .int l1] (W_Row G 2400 a f) (q) := by
  refine ofI "FloodDiaryModel" (by decide +kernel) rfl (Nat.le_of_ble_eq_true rfl) (fun p e s m args below meth c A ls hx hb hr hml hown hts hlk hK hN hA hP hD hS hl => ?_)
  have hl : lv_has ls 3 [(0, .ref a), (1, .int l1)] := hl
  have J_5 : ∀ (n_5 : Nat) (l1 : Int32) (l2 : Int32) (f : (Nat → Int32)) (H : Heap) (locs : List Loc) (ls : Array Slot), va_P G.1 vwCl (W_Row G 2400 a f) H → va_D A (W_Row G 2400 a f) → va_S A s.heap H locs → lv_has ls 3 [(0, .ref a), (1, .int l1), (2, .int l2)] → f_Md_lastOf_5 n_5 l1 l2 f = some q → W p l e (rmk 1 20) s m args below meth c H locs 0 0 (MQ below (qI G A (W_Row G 2400 a f) (q)) args s 0 0 A) (F0 m 5 ls []) := by
    intro n_5
    induction n_5 with
    | zero => intro l1 l2 f H locs ls hP hD hS hl hf; exact absurd hf (by unfold f_Md_lastOf_5; exact fun z => by cases z)
    | succ n_5 ih_5 =>
      intro l1 l2 f H locs ls hP hD hS hl hf
      rw [f_Md_lastOf_5] at hf
      refine lv_iload_n hx hb d_Md_lastOf_5 rfl (lv_at hl 2 rfl) ?_
      refine lv_if_le (tgt := 27) hx hb d_Md_lastOf_6 (by decide) (fun c_6 => ?_) (fun c_6 => ?_)
      · replace hf := ob_et c_6 hf
        refine lv_iload_n hx hb d_Md_lastOf_27 rfl (lv_at hl 2 rfl) ?_
        cases hf
        exact kI hx hb hr hlk hP hD hS d_Md_lastOf_28
      · replace hf := ob_ef c_6 hf
        refine lv_aload_n hx hb d_Md_lastOf_9 rfl (lv_at hl 0 rfl) ?_
        refine lv_iload_n hx hb d_Md_lastOf_10 rfl (lv_at hl 2 rfl) ?_
        obtain ⟨q_11, hc_11, hf⟩ := oc_e hf
        refine kcS (cc := c_Md_lastOf) (own := "FloodDiaryModel") (index := 43) (wc := ([] : va_W)) (wr := W_Row G 2400 a f) (wc' := ([] : va_W)) (ws' := W_Row G 2400 a f) hx hb hml hown hts hK hN hA hP hD hS (t_Md_at l G l2 q_11 hc_11) m_Md_at k_805 ⟨Nat.le_of_ble_eq_true rfl, Nat.le_of_ble_eq_true rfl⟩ (List.Perm.refl _) (List.Perm.refl _) rfl rfl (Nat.le_of_ble_eq_true rfl) hl.1 d_Md_lastOf_11 ⟨Nat.zero_le _, Nat.zero_le _⟩ (fun H locs hP hD hS => ?_)
        refine lv_iconst (v := (1 : Int32)) hx hb d_Md_lastOf_14 (by decide) ?_
        refine lv_iadd hx hb d_Md_lastOf_15 ?_
        obtain ⟨g_16, hf⟩ := og_e hf
        refine va_iald hx hb hK hP 0 0 rfl rfl g_16 d_Md_lastOf_16 ?_
        refine lv_iload_n hx hb d_Md_lastOf_17 rfl (lv_at hl 1 rfl) ?_
        refine lv_icmp_eq (tgt := 27) hx hb d_Md_lastOf_18 (by decide) (fun c_18 => ?_) (fun c_18 => ?_)
        · replace hf := ob_et c_18 hf
          refine lv_iload_n hx hb d_Md_lastOf_27 rfl (lv_at hl 2 rfl) ?_
          cases hf
          exact kI hx hb hr hlk hP hD hS d_Md_lastOf_28
        · replace hf := ob_ef c_18 hf
          refine lv_iinc (v := (l2 + (-1 : Int32))) (lv' := [(2, .int (l2 + (-1 : Int32))), (0, .ref a), (1, .int l1)]) hx hb d_Md_lastOf_21 hl (k := 2) rfl rfl (by decide) rfl (fun ls hl => ?_)
          refine lv_goto (tgt := 5) hx hb d_Md_lastOf_24 (by decide) ?_
          exact ih_5 l1 (l2 + (-1 : Int32)) f _ _ ls hP hD hS (lv_sub hl [1, 2, 0] rfl) hf
  unfold f_Md_lastOf at hf
  refine lv_aload_n hx hb d_Md_lastOf_0 rfl (lv_at hl 0 rfl) ?_
  refine lv_bipush (v := (57 : Int32)) hx hb d_Md_lastOf_1 (by decide) ?_
  obtain ⟨g_3, hf⟩ := og_e hf
  refine va_iald hx hb hK hP 0 0 rfl rfl g_3 d_Md_lastOf_3 ?_
  refine lv_istore_n (lv' := [(2, .int (f (57 : Int32).toNatClampNeg)), (0, .ref a), (1, .int l1)]) hx hb d_Md_lastOf_4 rfl hl (by decide) rfl (fun ls hl => ?_)
  exact J_5 FU l1 (f (57 : Int32).toNatClampNeg) f _ _ ls hP hD hS (lv_sub hl [1, 2, 0] rfl) hf
set_option maxHeartbeats 4000000 in
set_option maxRecDepth 100000 in
theorem t_Md_enter (l : Launch) (G : GG) (a : Nat) (l1 : Int32) (l2 : Int32) (l3 : Int32) (l4 : Int32) (l5 : Int32) (l6 : Int32) (f : (Nat → Int32)) (q : Int32 × (Nat → Int32)) (hf : f_Md_enter l1 l2 l3 l4 l5 l6 f = some q) : MI l G y_Md_enter c_Md_enter 9 (some .int) (rmk 2 42) (W_Row G 2400 a f) [.ref a, .int l1, .int l2, .int l3, .int l4, .int l5, .int l6] (W_Row G 2400 a q.2) (q.1) := by
  refine ofI "FloodDiaryModel" (by decide +kernel) rfl (Nat.le_of_ble_eq_true rfl) (fun p e s m args below meth c A ls hx hb hr hml hown hts hlk hK hN hA hP hD hS hl => ?_)
  have hl : lv_has ls 9 [(0, .ref a), (1, .int l1), (2, .int l2), (3, .int l3), (4, .int l4), (5, .int l5), (6, .int l6)] := hl
  have J_13 : ∀ (l1 : Int32) (l2 : Int32) (l3 : Int32) (l4 : Int32) (l5 : Int32) (l6 : Int32) (s0 : Int32) (f : (Nat → Int32)) (H : Heap) (locs : List Loc) (ls : Array Slot), va_P G.1 vwCl (W_Row G 2400 a f) H → va_D A (W_Row G 2400 a f) → va_S A s.heap H locs → lv_has ls 9 [(0, .ref a), (1, .int l1), (2, .int l2), (3, .int l3), (4, .int l4), (5, .int l5), (6, .int l6)] → f_Md_enter_13 l1 l2 l3 l4 l5 l6 s0 f = some q → W p l e (rmk 2 42) s m args below meth c H locs 0 0 (MQ below (qI G A (W_Row G 2400 a q.2) (q.1)) args s 0 0 A) (F0 m 13 ls [.int s0]) := by
    intro l1 l2 l3 l4 l5 l6 s0 f H locs ls hP hD hS hl hf
    unfold f_Md_enter_13 at hf
    refine lv_istore (lv' := [(7, .int s0), (0, .ref a), (1, .int l1), (2, .int l2), (3, .int l3), (4, .int l4), (5, .int l5), (6, .int l6)]) hx hb d_Md_enter_13 hl (by decide) rfl (fun ls hl => ?_)
    refine lv_aload_n hx hb d_Md_enter_15 rfl (lv_at hl 1 rfl) ?_
    refine lv_bipush (v := (57 : Int32)) hx hb d_Md_enter_16 (by decide) ?_
    refine lv_dup2_11 hx hb d_Md_enter_18 rfl rfl ?_
    obtain ⟨g_19, hf⟩ := og_e hf
    refine va_iald hx hb hK hP 0 0 rfl rfl g_19 d_Md_enter_19 ?_
    refine lv_iconst (v := (1 : Int32)) hx hb d_Md_enter_20 (by decide) ?_
    refine lv_iadd hx hb d_Md_enter_21 ?_
    obtain ⟨g_22, hf⟩ := og_e hf
    obtain ⟨r_22, er_22, hf⟩ := nx_e hf
    refine va_iast hx hb hK hP hD hS 0 0 rfl rfl g_22 d_Md_enter_22 (fun H locs hP hD hS => ?_)
    rw [← er_22] at hP hD
    have hP : va_P G.1 vwCl (W_Row G 2400 a r_22) H := hP
    have hD : va_D A (W_Row G 2400 a r_22) := hD
    refine lv_aload_n hx hb d_Md_enter_23 rfl (lv_at hl 1 rfl) ?_
    refine lv_bipush (v := (57 : Int32)) hx hb d_Md_enter_24 (by decide) ?_
    obtain ⟨g_26, hf⟩ := og_e hf
    refine va_iald hx hb hK hP 0 0 rfl rfl g_26 d_Md_enter_26 ?_
    refine lv_istore (lv' := [(8, .int (r_22 (57 : Int32).toNatClampNeg)), (7, .int s0), (0, .ref a), (1, .int l1), (2, .int l2), (3, .int l3), (4, .int l4), (5, .int l5), (6, .int l6)]) hx hb d_Md_enter_27 hl (by decide) rfl (fun ls hl => ?_)
    refine lv_aload_n hx hb d_Md_enter_29 rfl (lv_at hl 2 rfl) ?_
    refine lv_iload hx hb d_Md_enter_30 (lv_at hl 0 rfl) ?_
    obtain ⟨q_32, hc_32, hf⟩ := oc_e hf
    refine kcS (cc := c_Md_enter) (own := "FloodDiaryModel") (index := 43) (wc := ([] : va_W)) (wr := W_Row G 2400 a r_22) (wc' := ([] : va_W)) (ws' := W_Row G 2400 a r_22) hx hb hml hown hts hK hN hA hP hD hS (t_Md_at l G (r_22 (57 : Int32).toNatClampNeg) q_32 hc_32) m_Md_at k_805 ⟨Nat.le_of_ble_eq_true rfl, Nat.le_of_ble_eq_true rfl⟩ (List.Perm.refl _) (List.Perm.refl _) rfl rfl (Nat.le_of_ble_eq_true rfl) hl.1 d_Md_enter_32 ⟨Nat.zero_le _, Nat.zero_le _⟩ (fun H locs hP hD hS => ?_)
    refine lv_iconst (v := (0 : Int32)) hx hb d_Md_enter_35 (by decide) ?_
    refine lv_iadd hx hb d_Md_enter_36 ?_
    refine lv_iload_n hx hb d_Md_enter_37 rfl (lv_at hl 3 rfl) ?_
    obtain ⟨g_38, hf⟩ := og_e hf
    obtain ⟨r_38, er_38, hf⟩ := nx_e hf
    refine va_iast hx hb hK hP hD hS 0 0 rfl rfl g_38 d_Md_enter_38 (fun H locs hP hD hS => ?_)
    rw [← er_38] at hP hD
    have hP : va_P G.1 vwCl (W_Row G 2400 a r_38) H := hP
    have hD : va_D A (W_Row G 2400 a r_38) := hD
    refine lv_aload_n hx hb d_Md_enter_39 rfl (lv_at hl 2 rfl) ?_
    refine lv_iload hx hb d_Md_enter_40 (lv_at hl 0 rfl) ?_
    obtain ⟨q_42, hc_42, hf⟩ := oc_e hf
    refine kcS (cc := c_Md_enter) (own := "FloodDiaryModel") (index := 43) (wc := ([] : va_W)) (wr := W_Row G 2400 a r_38) (wc' := ([] : va_W)) (ws' := W_Row G 2400 a r_38) hx hb hml hown hts hK hN hA hP hD hS (t_Md_at l G (r_22 (57 : Int32).toNatClampNeg) q_42 hc_42) m_Md_at k_805 ⟨Nat.le_of_ble_eq_true rfl, Nat.le_of_ble_eq_true rfl⟩ (List.Perm.refl _) (List.Perm.refl _) rfl rfl (Nat.le_of_ble_eq_true rfl) hl.1 d_Md_enter_42 ⟨Nat.zero_le _, Nat.zero_le _⟩ (fun H locs hP hD hS => ?_)
    refine lv_iconst (v := (1 : Int32)) hx hb d_Md_enter_45 (by decide) ?_
    refine lv_iadd hx hb d_Md_enter_46 ?_
    refine lv_iload_n hx hb d_Md_enter_47 rfl (lv_at hl 4 rfl) ?_
    obtain ⟨g_48, hf⟩ := og_e hf
    obtain ⟨r_48, er_48, hf⟩ := nx_e hf
    refine va_iast hx hb hK hP hD hS 0 0 rfl rfl g_48 d_Md_enter_48 (fun H locs hP hD hS => ?_)
    rw [← er_48] at hP hD
    have hP : va_P G.1 vwCl (W_Row G 2400 a r_48) H := hP
    have hD : va_D A (W_Row G 2400 a r_48) := hD
    refine lv_aload_n hx hb d_Md_enter_49 rfl (lv_at hl 2 rfl) ?_
    refine lv_iload hx hb d_Md_enter_50 (lv_at hl 0 rfl) ?_
    obtain ⟨q_52, hc_52, hf⟩ := oc_e hf
    refine kcS (cc := c_Md_enter) (own := "FloodDiaryModel") (index := 43) (wc := ([] : va_W)) (wr := W_Row G 2400 a r_48) (wc' := ([] : va_W)) (ws' := W_Row G 2400 a r_48) hx hb hml hown hts hK hN hA hP hD hS (t_Md_at l G (r_22 (57 : Int32).toNatClampNeg) q_52 hc_52) m_Md_at k_805 ⟨Nat.le_of_ble_eq_true rfl, Nat.le_of_ble_eq_true rfl⟩ (List.Perm.refl _) (List.Perm.refl _) rfl rfl (Nat.le_of_ble_eq_true rfl) hl.1 d_Md_enter_52 ⟨Nat.zero_le _, Nat.zero_le _⟩ (fun H locs hP hD hS => ?_)
    refine lv_iconst (v := (2 : Int32)) hx hb d_Md_enter_55 (by decide) ?_
    refine lv_iadd hx hb d_Md_enter_56 ?_
    refine lv_iload hx hb d_Md_enter_57 (lv_at hl 1 rfl) ?_
    obtain ⟨g_59, hf⟩ := og_e hf
    obtain ⟨r_59, er_59, hf⟩ := nx_e hf
    refine va_iast hx hb hK hP hD hS 0 0 rfl rfl g_59 d_Md_enter_59 (fun H locs hP hD hS => ?_)
    rw [← er_59] at hP hD
    have hP : va_P G.1 vwCl (W_Row G 2400 a r_59) H := hP
    have hD : va_D A (W_Row G 2400 a r_59) := hD
    refine lv_aload_n hx hb d_Md_enter_60 rfl (lv_at hl 2 rfl) ?_
    refine lv_iload hx hb d_Md_enter_61 (lv_at hl 0 rfl) ?_
    obtain ⟨q_63, hc_63, hf⟩ := oc_e hf
    refine kcS (cc := c_Md_enter) (own := "FloodDiaryModel") (index := 43) (wc := ([] : va_W)) (wr := W_Row G 2400 a r_59) (wc' := ([] : va_W)) (ws' := W_Row G 2400 a r_59) hx hb hml hown hts hK hN hA hP hD hS (t_Md_at l G (r_22 (57 : Int32).toNatClampNeg) q_63 hc_63) m_Md_at k_805 ⟨Nat.le_of_ble_eq_true rfl, Nat.le_of_ble_eq_true rfl⟩ (List.Perm.refl _) (List.Perm.refl _) rfl rfl (Nat.le_of_ble_eq_true rfl) hl.1 d_Md_enter_63 ⟨Nat.zero_le _, Nat.zero_le _⟩ (fun H locs hP hD hS => ?_)
    refine lv_iconst (v := (3 : Int32)) hx hb d_Md_enter_66 (by decide) ?_
    refine lv_iadd hx hb d_Md_enter_67 ?_
    refine lv_iload_n hx hb d_Md_enter_68 rfl (lv_at hl 5 rfl) ?_
    obtain ⟨g_69, hf⟩ := og_e hf
    obtain ⟨r_69, er_69, hf⟩ := nx_e hf
    refine va_iast hx hb hK hP hD hS 0 0 rfl rfl g_69 d_Md_enter_69 (fun H locs hP hD hS => ?_)
    rw [← er_69] at hP hD
    have hP : va_P G.1 vwCl (W_Row G 2400 a r_69) H := hP
    have hD : va_D A (W_Row G 2400 a r_69) := hD
    refine lv_aload_n hx hb d_Md_enter_70 rfl (lv_at hl 2 rfl) ?_
    refine lv_iload hx hb d_Md_enter_71 (lv_at hl 0 rfl) ?_
    obtain ⟨q_73, hc_73, hf⟩ := oc_e hf
    refine kcS (cc := c_Md_enter) (own := "FloodDiaryModel") (index := 43) (wc := ([] : va_W)) (wr := W_Row G 2400 a r_69) (wc' := ([] : va_W)) (ws' := W_Row G 2400 a r_69) hx hb hml hown hts hK hN hA hP hD hS (t_Md_at l G (r_22 (57 : Int32).toNatClampNeg) q_73 hc_73) m_Md_at k_805 ⟨Nat.le_of_ble_eq_true rfl, Nat.le_of_ble_eq_true rfl⟩ (List.Perm.refl _) (List.Perm.refl _) rfl rfl (Nat.le_of_ble_eq_true rfl) hl.1 d_Md_enter_73 ⟨Nat.zero_le _, Nat.zero_le _⟩ (fun H locs hP hD hS => ?_)
    refine lv_iconst (v := (4 : Int32)) hx hb d_Md_enter_76 (by decide) ?_
    refine lv_iadd hx hb d_Md_enter_77 ?_
    refine lv_iload hx hb d_Md_enter_78 (lv_at hl 6 rfl) ?_
    obtain ⟨g_80, hf⟩ := og_e hf
    obtain ⟨r_80, er_80, hf⟩ := nx_e hf
    refine va_iast hx hb hK hP hD hS 0 0 rfl rfl g_80 d_Md_enter_80 (fun H locs hP hD hS => ?_)
    rw [← er_80] at hP hD
    have hP : va_P G.1 vwCl (W_Row G 2400 a r_80) H := hP
    have hD : va_D A (W_Row G 2400 a r_80) := hD
    refine lv_aload_n hx hb d_Md_enter_81 rfl (lv_at hl 2 rfl) ?_
    refine lv_iload hx hb d_Md_enter_82 (lv_at hl 0 rfl) ?_
    obtain ⟨q_84, hc_84, hf⟩ := oc_e hf
    refine kcS (cc := c_Md_enter) (own := "FloodDiaryModel") (index := 43) (wc := ([] : va_W)) (wr := W_Row G 2400 a r_80) (wc' := ([] : va_W)) (ws' := W_Row G 2400 a r_80) hx hb hml hown hts hK hN hA hP hD hS (t_Md_at l G (r_22 (57 : Int32).toNatClampNeg) q_84 hc_84) m_Md_at k_805 ⟨Nat.le_of_ble_eq_true rfl, Nat.le_of_ble_eq_true rfl⟩ (List.Perm.refl _) (List.Perm.refl _) rfl rfl (Nat.le_of_ble_eq_true rfl) hl.1 d_Md_enter_84 ⟨Nat.zero_le _, Nat.zero_le _⟩ (fun H locs hP hD hS => ?_)
    refine lv_iconst (v := (5 : Int32)) hx hb d_Md_enter_87 (by decide) ?_
    refine lv_iadd hx hb d_Md_enter_88 ?_
    refine lv_iload hx hb d_Md_enter_89 (lv_at hl 7 rfl) ?_
    obtain ⟨g_91, hf⟩ := og_e hf
    obtain ⟨r_91, er_91, hf⟩ := nx_e hf
    refine va_iast hx hb hK hP hD hS 0 0 rfl rfl g_91 d_Md_enter_91 (fun H locs hP hD hS => ?_)
    rw [← er_91] at hP hD
    have hP : va_P G.1 vwCl (W_Row G 2400 a r_91) H := hP
    have hD : va_D A (W_Row G 2400 a r_91) := hD
    refine lv_aload_n hx hb d_Md_enter_92 rfl (lv_at hl 2 rfl) ?_
    refine lv_iload hx hb d_Md_enter_93 (lv_at hl 0 rfl) ?_
    obtain ⟨q_95, hc_95, hf⟩ := oc_e hf
    refine kcS (cc := c_Md_enter) (own := "FloodDiaryModel") (index := 43) (wc := ([] : va_W)) (wr := W_Row G 2400 a r_91) (wc' := ([] : va_W)) (ws' := W_Row G 2400 a r_91) hx hb hml hown hts hK hN hA hP hD hS (t_Md_at l G (r_22 (57 : Int32).toNatClampNeg) q_95 hc_95) m_Md_at k_805 ⟨Nat.le_of_ble_eq_true rfl, Nat.le_of_ble_eq_true rfl⟩ (List.Perm.refl _) (List.Perm.refl _) rfl rfl (Nat.le_of_ble_eq_true rfl) hl.1 d_Md_enter_95 ⟨Nat.zero_le _, Nat.zero_le _⟩ (fun H locs hP hD hS => ?_)
    refine lv_bipush (v := (6 : Int32)) hx hb d_Md_enter_98 (by decide) ?_
    refine lv_iadd hx hb d_Md_enter_100 ?_
    refine lv_iload hx hb d_Md_enter_101 (lv_at hl 8 rfl) ?_
    obtain ⟨g_103, hf⟩ := og_e hf
    obtain ⟨r_103, er_103, hf⟩ := nx_e hf
    refine va_iast hx hb hK hP hD hS 0 0 rfl rfl g_103 d_Md_enter_103 (fun H locs hP hD hS => ?_)
    rw [← er_103] at hP hD
    have hP : va_P G.1 vwCl (W_Row G 2400 a r_103) H := hP
    have hD : va_D A (W_Row G 2400 a r_103) := hD
    refine lv_iload hx hb d_Md_enter_104 (lv_at hl 0 rfl) ?_
    cases hf
    exact kI hx hb hr hlk hP hD hS d_Md_enter_106
  unfold f_Md_enter at hf
  refine lv_iload_n hx hb d_Md_enter_0 rfl (lv_at hl 1 rfl) ?_
  refine lv_if_ne (tgt := 8) hx hb d_Md_enter_1 (by decide) (fun c_1 => ?_) (fun c_1 => ?_)
  · replace hf := ob_ef c_1 hf
    refine lv_aload_n hx hb d_Md_enter_8 rfl (lv_at hl 0 rfl) ?_
    refine lv_iload_n hx hb d_Md_enter_9 rfl (lv_at hl 2 rfl) ?_
    obtain ⟨q_10, hc_10, hf⟩ := oc_e hf
    refine kcS (cc := c_Md_enter) (own := "FloodDiaryModel") (index := 47) (wc := W_Row G 2400 a f) (wr := ([] : va_W)) (wc' := W_Row G 2400 a f) (ws' := W_Row G 2400 a f) hx hb hml hown hts hK hN hA hP hD hS (t_Md_lastOf l G a l2 f q_10 hc_10) m_Md_lastOf k_802 ⟨Nat.le_of_ble_eq_true rfl, Nat.le_of_ble_eq_true rfl⟩ (pm_0 (W_Row G 2400 a f)) (pm_0 (W_Row G 2400 a f)).symm rfl rfl (Nat.le_of_ble_eq_true rfl) hl.1 d_Md_enter_10 ⟨Nat.zero_le _, Nat.zero_le _⟩ (fun H locs hP hD hS => ?_)
    exact J_13 l1 l2 l3 l4 l5 l6 q_10 f _ _ ls hP hD hS (lv_sub hl [0, 1, 2, 3, 4, 5, 6] rfl) hf
  · replace hf := ob_et c_1 hf
    refine lv_iconst (v := (0 : Int32)) hx hb d_Md_enter_4 (by decide) ?_
    refine lv_goto (tgt := 13) hx hb d_Md_enter_5 (by decide) ?_
    exact J_13 l1 l2 l3 l4 l5 l6 (0 : Int32) f _ _ ls hP hD hS (lv_sub hl [0, 1, 2, 3, 4, 5, 6] rfl) hf
set_option maxHeartbeats 4000000 in
set_option maxRecDepth 100000 in
theorem t_Md_goesOnWith (l : Launch) (G : GG) (a : Nat) (l1 : Int32) (f : (Nat → Int32)) (q : Int32) (hf : f_Md_goesOnWith l1 f = some q) : MI l G y_Md_goesOnWith c_Md_goesOnWith 3 (some .int) (rmk 2 42) (W_Row G 2400 a f) [.ref a, .int l1] (W_Row G 2400 a f) (q) := by
  refine ofI "FloodDiaryModel" (by decide +kernel) rfl (Nat.le_of_ble_eq_true rfl) (fun p e s m args below meth c A ls hx hb hr hml hown hts hlk hK hN hA hP hD hS hl => ?_)
  have hl : lv_has ls 3 [(0, .ref a), (1, .int l1)] := hl
  unfold f_Md_goesOnWith at hf
  refine lv_aload_n hx hb d_Md_goesOnWith_0 rfl (lv_at hl 0 rfl) ?_
  refine lv_iload_n hx hb d_Md_goesOnWith_1 rfl (lv_at hl 1 rfl) ?_
  obtain ⟨q_2, hc_2, hf⟩ := oc_e hf
  refine kcS (cc := c_Md_goesOnWith) (own := "FloodDiaryModel") (index := 47) (wc := W_Row G 2400 a f) (wr := ([] : va_W)) (wc' := W_Row G 2400 a f) (ws' := W_Row G 2400 a f) hx hb hml hown hts hK hN hA hP hD hS (t_Md_lastOf l G a l1 f q_2 hc_2) m_Md_lastOf k_802 ⟨Nat.le_of_ble_eq_true rfl, Nat.le_of_ble_eq_true rfl⟩ (pm_0 (W_Row G 2400 a f)) (pm_0 (W_Row G 2400 a f)).symm rfl rfl (Nat.le_of_ble_eq_true rfl) hl.1 d_Md_goesOnWith_2 ⟨Nat.zero_le _, Nat.zero_le _⟩ (fun H locs hP hD hS => ?_)
  refine lv_istore_n (lv' := [(2, .int q_2), (0, .ref a), (1, .int l1)]) hx hb d_Md_goesOnWith_5 rfl hl (by decide) rfl (fun ls hl => ?_)
  refine lv_iload_n hx hb d_Md_goesOnWith_6 rfl (lv_at hl 0 rfl) ?_
  refine lv_if_le (tgt := 34) hx hb d_Md_goesOnWith_7 (by decide) (fun c_7 => ?_) (fun c_7 => ?_)
  · replace hf := ob_et c_7 hf
    refine lv_iload_n hx hb d_Md_goesOnWith_34 rfl (lv_at hl 0 rfl) ?_
    cases hf
    exact kI hx hb hr hlk hP hD hS d_Md_goesOnWith_35
  · replace hf := ob_ef c_7 hf
    refine lv_aload_n hx hb d_Md_goesOnWith_10 rfl (lv_at hl 1 rfl) ?_
    refine lv_iload_n hx hb d_Md_goesOnWith_11 rfl (lv_at hl 0 rfl) ?_
    obtain ⟨q_12, hc_12, hf⟩ := oc_e hf
    refine kcS (cc := c_Md_goesOnWith) (own := "FloodDiaryModel") (index := 43) (wc := ([] : va_W)) (wr := W_Row G 2400 a f) (wc' := ([] : va_W)) (ws' := W_Row G 2400 a f) hx hb hml hown hts hK hN hA hP hD hS (t_Md_at l G q_2 q_12 hc_12) m_Md_at k_805 ⟨Nat.le_of_ble_eq_true rfl, Nat.le_of_ble_eq_true rfl⟩ (List.Perm.refl _) (List.Perm.refl _) rfl rfl (Nat.le_of_ble_eq_true rfl) hl.1 d_Md_goesOnWith_12 ⟨Nat.zero_le _, Nat.zero_le _⟩ (fun H locs hP hD hS => ?_)
    refine lv_iconst (v := (0 : Int32)) hx hb d_Md_goesOnWith_15 (by decide) ?_
    refine lv_iadd hx hb d_Md_goesOnWith_16 ?_
    obtain ⟨g_17, hf⟩ := og_e hf
    refine va_iald hx hb hK hP 0 0 rfl rfl g_17 d_Md_goesOnWith_17 ?_
    refine lv_iconst (v := (2 : Int32)) hx hb d_Md_goesOnWith_18 (by decide) ?_
    refine lv_icmp_ne (tgt := 34) hx hb d_Md_goesOnWith_19 (by decide) (fun c_19 => ?_) (fun c_19 => ?_)
    · replace hf := ob_ef c_19 hf
      refine lv_iload_n hx hb d_Md_goesOnWith_34 rfl (lv_at hl 0 rfl) ?_
      cases hf
      exact kI hx hb hr hlk hP hD hS d_Md_goesOnWith_35
    · replace hf := ob_et c_19 hf
      refine lv_aload_n hx hb d_Md_goesOnWith_22 rfl (lv_at hl 1 rfl) ?_
      refine lv_iload_n hx hb d_Md_goesOnWith_23 rfl (lv_at hl 0 rfl) ?_
      obtain ⟨q_24, hc_24, hf⟩ := oc_e hf
      refine kcS (cc := c_Md_goesOnWith) (own := "FloodDiaryModel") (index := 43) (wc := ([] : va_W)) (wr := W_Row G 2400 a f) (wc' := ([] : va_W)) (ws' := W_Row G 2400 a f) hx hb hml hown hts hK hN hA hP hD hS (t_Md_at l G q_2 q_24 hc_24) m_Md_at k_805 ⟨Nat.le_of_ble_eq_true rfl, Nat.le_of_ble_eq_true rfl⟩ (List.Perm.refl _) (List.Perm.refl _) rfl rfl (Nat.le_of_ble_eq_true rfl) hl.1 d_Md_goesOnWith_24 ⟨Nat.zero_le _, Nat.zero_le _⟩ (fun H locs hP hD hS => ?_)
      refine lv_bipush (v := (6 : Int32)) hx hb d_Md_goesOnWith_27 (by decide) ?_
      refine lv_iadd hx hb d_Md_goesOnWith_29 ?_
      obtain ⟨g_30, hf⟩ := og_e hf
      refine va_iald hx hb hK hP 0 0 rfl rfl g_30 d_Md_goesOnWith_30 ?_
      refine lv_goto (tgt := 35) hx hb d_Md_goesOnWith_31 (by decide) ?_
      cases hf
      exact kI hx hb hr hlk hP hD hS d_Md_goesOnWith_35
set_option maxHeartbeats 4000000 in
set_option maxRecDepth 100000 in
theorem t_Md_pagesOf (l : Launch) (G : GG) (a : Nat) (l1 : Int32) (f : (Nat → Int32)) (q : Int32) (hf : f_Md_pagesOf l1 f = some q) : MI l G y_Md_pagesOf c_Md_pagesOf 4 (some .int) (rmk 1 20) (W_Row G 2400 a f) [.ref a, .int l1] (W_Row G 2400 a f) (q) := by
  refine ofI "FloodDiaryModel" (by decide +kernel) rfl (Nat.le_of_ble_eq_true rfl) (fun p e s m args below meth c A ls hx hb hr hml hown hts hlk hK hN hA hP hD hS hl => ?_)
  have hl : lv_has ls 4 [(0, .ref a), (1, .int l1)] := hl
  have J_4 : ∀ (n_4 : Nat) (l1 : Int32) (l2 : Int32) (l3 : Int32) (f : (Nat → Int32)) (H : Heap) (locs : List Loc) (ls : Array Slot), va_P G.1 vwCl (W_Row G 2400 a f) H → va_D A (W_Row G 2400 a f) → va_S A s.heap H locs → lv_has ls 4 [(0, .ref a), (1, .int l1), (2, .int l2), (3, .int l3)] → f_Md_pagesOf_4 n_4 l1 l2 l3 f = some q → W p l e (rmk 1 20) s m args below meth c H locs 0 0 (MQ below (qI G A (W_Row G 2400 a f) (q)) args s 0 0 A) (F0 m 4 ls []) := by
    intro n_4
    induction n_4 with
    | zero => intro l1 l2 l3 f H locs ls hP hD hS hl hf; exact absurd hf (by unfold f_Md_pagesOf_4; exact fun z => by cases z)
    | succ n_4 ih_4 =>
      intro l1 l2 l3 f H locs ls hP hD hS hl hf
      rw [f_Md_pagesOf_4] at hf
      refine lv_iload_n hx hb d_Md_pagesOf_4 rfl (lv_at hl 3 rfl) ?_
      refine lv_aload_n hx hb d_Md_pagesOf_5 rfl (lv_at hl 0 rfl) ?_
      refine lv_bipush (v := (57 : Int32)) hx hb d_Md_pagesOf_6 (by decide) ?_
      obtain ⟨g_8, hf⟩ := og_e hf
      refine va_iald hx hb hK hP 0 0 rfl rfl g_8 d_Md_pagesOf_8 ?_
      refine lv_icmp_gt (tgt := 59) hx hb d_Md_pagesOf_9 (by decide) (fun c_9 => ?_) (fun c_9 => ?_)
      · replace hf := ob_et c_9 hf
        refine lv_iload_n hx hb d_Md_pagesOf_59 rfl (lv_at hl 2 rfl) ?_
        cases hf
        exact kI hx hb hr hlk hP hD hS d_Md_pagesOf_60
      · replace hf := ob_ef c_9 hf
        refine lv_iload_n hx hb d_Md_pagesOf_12 rfl (lv_at hl 2 rfl) ?_
        refine lv_aload_n hx hb d_Md_pagesOf_13 rfl (lv_at hl 0 rfl) ?_
        refine lv_iload_n hx hb d_Md_pagesOf_14 rfl (lv_at hl 3 rfl) ?_
        obtain ⟨q_15, hc_15, hf⟩ := oc_e hf
        refine kcS (cc := c_Md_pagesOf) (own := "FloodDiaryModel") (index := 43) (wc := ([] : va_W)) (wr := W_Row G 2400 a f) (wc' := ([] : va_W)) (ws' := W_Row G 2400 a f) hx hb hml hown hts hK hN hA hP hD hS (t_Md_at l G l3 q_15 hc_15) m_Md_at k_805 ⟨Nat.le_of_ble_eq_true rfl, Nat.le_of_ble_eq_true rfl⟩ (List.Perm.refl _) (List.Perm.refl _) rfl rfl (Nat.le_of_ble_eq_true rfl) hl.1 d_Md_pagesOf_15 ⟨Nat.zero_le _, Nat.zero_le _⟩ (fun H locs hP hD hS => ?_)
        refine lv_iconst (v := (1 : Int32)) hx hb d_Md_pagesOf_18 (by decide) ?_
        refine lv_iadd hx hb d_Md_pagesOf_19 ?_
        obtain ⟨g_20, hf⟩ := og_e hf
        refine va_iald hx hb hK hP 0 0 rfl rfl g_20 d_Md_pagesOf_20 ?_
        refine lv_iload_n hx hb d_Md_pagesOf_21 rfl (lv_at hl 1 rfl) ?_
        refine lv_icmp_ne (tgt := 50) hx hb d_Md_pagesOf_22 (by decide) (fun c_22 => ?_) (fun c_22 => ?_)
        · replace hf := ob_ef c_22 hf
          refine lv_iconst (v := (0 : Int32)) hx hb d_Md_pagesOf_50 (by decide) ?_
          refine lv_ior hx hb d_Md_pagesOf_51 ?_
          refine lv_istore_n (lv' := [(2, .int (l2 ||| (0 : Int32))), (0, .ref a), (1, .int l1), (3, .int l3)]) hx hb d_Md_pagesOf_52 rfl hl (by decide) rfl (fun ls hl => ?_)
          refine lv_iinc (v := (l3 + (1 : Int32))) (lv' := [(3, .int (l3 + (1 : Int32))), (2, .int (l2 ||| (0 : Int32))), (0, .ref a), (1, .int l1)]) hx hb d_Md_pagesOf_53 hl (k := 3) rfl rfl (by decide) rfl (fun ls hl => ?_)
          refine lv_goto (tgt := 4) hx hb d_Md_pagesOf_56 (by decide) ?_
          exact ih_4 l1 (l2 ||| (0 : Int32)) (l3 + (1 : Int32)) f _ _ ls hP hD hS (lv_sub hl [2, 3, 1, 0] rfl) hf
        · replace hf := ob_et c_22 hf
          refine lv_aload_n hx hb d_Md_pagesOf_25 rfl (lv_at hl 0 rfl) ?_
          refine lv_iload_n hx hb d_Md_pagesOf_26 rfl (lv_at hl 3 rfl) ?_
          obtain ⟨q_27, hc_27, hf⟩ := oc_e hf
          refine kcS (cc := c_Md_pagesOf) (own := "FloodDiaryModel") (index := 43) (wc := ([] : va_W)) (wr := W_Row G 2400 a f) (wc' := ([] : va_W)) (ws' := W_Row G 2400 a f) hx hb hml hown hts hK hN hA hP hD hS (t_Md_at l G l3 q_27 hc_27) m_Md_at k_805 ⟨Nat.le_of_ble_eq_true rfl, Nat.le_of_ble_eq_true rfl⟩ (List.Perm.refl _) (List.Perm.refl _) rfl rfl (Nat.le_of_ble_eq_true rfl) hl.1 d_Md_pagesOf_27 ⟨Nat.zero_le _, Nat.zero_le _⟩ (fun H locs hP hD hS => ?_)
          refine lv_iconst (v := (0 : Int32)) hx hb d_Md_pagesOf_30 (by decide) ?_
          refine lv_iadd hx hb d_Md_pagesOf_31 ?_
          obtain ⟨g_32, hf⟩ := og_e hf
          refine va_iald hx hb hK hP 0 0 rfl rfl g_32 d_Md_pagesOf_32 ?_
          refine lv_iconst (v := (1 : Int32)) hx hb d_Md_pagesOf_33 (by decide) ?_
          refine lv_icmp_ne (tgt := 50) hx hb d_Md_pagesOf_34 (by decide) (fun c_34 => ?_) (fun c_34 => ?_)
          · replace hf := ob_ef c_34 hf
            refine lv_iconst (v := (0 : Int32)) hx hb d_Md_pagesOf_50 (by decide) ?_
            refine lv_ior hx hb d_Md_pagesOf_51 ?_
            refine lv_istore_n (lv' := [(2, .int (l2 ||| (0 : Int32))), (0, .ref a), (1, .int l1), (3, .int l3)]) hx hb d_Md_pagesOf_52 rfl hl (by decide) rfl (fun ls hl => ?_)
            refine lv_iinc (v := (l3 + (1 : Int32))) (lv' := [(3, .int (l3 + (1 : Int32))), (2, .int (l2 ||| (0 : Int32))), (0, .ref a), (1, .int l1)]) hx hb d_Md_pagesOf_53 hl (k := 3) rfl rfl (by decide) rfl (fun ls hl => ?_)
            refine lv_goto (tgt := 4) hx hb d_Md_pagesOf_56 (by decide) ?_
            exact ih_4 l1 (l2 ||| (0 : Int32)) (l3 + (1 : Int32)) f _ _ ls hP hD hS (lv_sub hl [2, 3, 1, 0] rfl) hf
          · replace hf := ob_et c_34 hf
            refine lv_iconst (v := (1 : Int32)) hx hb d_Md_pagesOf_37 (by decide) ?_
            refine lv_aload_n hx hb d_Md_pagesOf_38 rfl (lv_at hl 0 rfl) ?_
            refine lv_iload_n hx hb d_Md_pagesOf_39 rfl (lv_at hl 3 rfl) ?_
            obtain ⟨q_40, hc_40, hf⟩ := oc_e hf
            refine kcS (cc := c_Md_pagesOf) (own := "FloodDiaryModel") (index := 43) (wc := ([] : va_W)) (wr := W_Row G 2400 a f) (wc' := ([] : va_W)) (ws' := W_Row G 2400 a f) hx hb hml hown hts hK hN hA hP hD hS (t_Md_at l G l3 q_40 hc_40) m_Md_at k_805 ⟨Nat.le_of_ble_eq_true rfl, Nat.le_of_ble_eq_true rfl⟩ (List.Perm.refl _) (List.Perm.refl _) rfl rfl (Nat.le_of_ble_eq_true rfl) hl.1 d_Md_pagesOf_40 ⟨Nat.zero_le _, Nat.zero_le _⟩ (fun H locs hP hD hS => ?_)
            refine lv_iconst (v := (3 : Int32)) hx hb d_Md_pagesOf_43 (by decide) ?_
            refine lv_iadd hx hb d_Md_pagesOf_44 ?_
            obtain ⟨g_45, hf⟩ := og_e hf
            refine va_iald hx hb hK hP 0 0 rfl rfl g_45 d_Md_pagesOf_45 ?_
            refine lv_ishl hx hb d_Md_pagesOf_46 ?_
            refine lv_goto (tgt := 51) hx hb d_Md_pagesOf_47 (by decide) ?_
            refine lv_ior hx hb d_Md_pagesOf_51 ?_
            refine lv_istore_n (lv' := [(2, .int (l2 ||| ((1 : Int32) <<< ((f (q_40 + (3 : Int32)).toNatClampNeg) &&& 31)))), (0, .ref a), (1, .int l1), (3, .int l3)]) hx hb d_Md_pagesOf_52 rfl hl (by decide) rfl (fun ls hl => ?_)
            refine lv_iinc (v := (l3 + (1 : Int32))) (lv' := [(3, .int (l3 + (1 : Int32))), (2, .int (l2 ||| ((1 : Int32) <<< ((f (q_40 + (3 : Int32)).toNatClampNeg) &&& 31)))), (0, .ref a), (1, .int l1)]) hx hb d_Md_pagesOf_53 hl (k := 3) rfl rfl (by decide) rfl (fun ls hl => ?_)
            refine lv_goto (tgt := 4) hx hb d_Md_pagesOf_56 (by decide) ?_
            exact ih_4 l1 (l2 ||| ((1 : Int32) <<< ((f (q_40 + (3 : Int32)).toNatClampNeg) &&& 31))) (l3 + (1 : Int32)) f _ _ ls hP hD hS (lv_sub hl [2, 3, 1, 0] rfl) hf
  unfold f_Md_pagesOf at hf
  refine lv_iconst (v := (0 : Int32)) hx hb d_Md_pagesOf_0 (by decide) ?_
  refine lv_istore_n (lv' := [(2, .int (0 : Int32)), (0, .ref a), (1, .int l1)]) hx hb d_Md_pagesOf_1 rfl hl (by decide) rfl (fun ls hl => ?_)
  refine lv_iconst (v := (1 : Int32)) hx hb d_Md_pagesOf_2 (by decide) ?_
  refine lv_istore_n (lv' := [(3, .int (1 : Int32)), (2, .int (0 : Int32)), (0, .ref a), (1, .int l1)]) hx hb d_Md_pagesOf_3 rfl hl (by decide) rfl (fun ls hl => ?_)
  exact J_4 FU l1 (0 : Int32) (1 : Int32) f _ _ ls hP hD hS (lv_sub hl [2, 3, 1, 0] rfl) hf
set_option maxHeartbeats 4000000 in
set_option maxRecDepth 100000 in
theorem t_Md_holder (l : Launch) (G : GG) (a : Nat) (l1 : Int32) (f : (Nat → Int32)) (q : Int32) (hf : f_Md_holder l1 f = some q) : MI l G y_Md_holder c_Md_holder 3 (some .int) (rmk 2 43) (W_Row G 2400 a f) [.ref a, .int l1] (W_Row G 2400 a f) (q) := by
  refine ofI "FloodDiaryModel" (by decide +kernel) rfl (Nat.le_of_ble_eq_true rfl) (fun p e s m args below meth c A ls hx hb hr hml hown hts hlk hK hN hA hP hD hS hl => ?_)
  have hl : lv_has ls 3 [(0, .ref a), (1, .int l1)] := hl
  have J_2 : ∀ (n_2 : Nat) (l1 : Int32) (l2 : Int32) (f : (Nat → Int32)) (H : Heap) (locs : List Loc) (ls : Array Slot), va_P G.1 vwCl (W_Row G 2400 a f) H → va_D A (W_Row G 2400 a f) → va_S A s.heap H locs → lv_has ls 3 [(0, .ref a), (1, .int l1), (2, .int l2)] → f_Md_holder_2 n_2 l1 l2 f = some q → W p l e (rmk 2 43) s m args below meth c H locs 0 0 (MQ below (qI G A (W_Row G 2400 a f) (q)) args s 0 0 A) (F0 m 2 ls []) := by
    intro n_2
    induction n_2 with
    | zero => intro l1 l2 f H locs ls hP hD hS hl hf; exact absurd hf (by unfold f_Md_holder_2; exact fun z => by cases z)
    | succ n_2 ih_2 =>
      intro l1 l2 f H locs ls hP hD hS hl hf
      rw [f_Md_holder_2] at hf
      refine lv_iload_n hx hb d_Md_holder_2 rfl (lv_at hl 2 rfl) ?_
      refine lv_aload_n hx hb d_Md_holder_3 rfl (lv_at hl 0 rfl) ?_
      refine lv_bipush (v := (56 : Int32)) hx hb d_Md_holder_4 (by decide) ?_
      obtain ⟨g_6, hf⟩ := og_e hf
      refine va_iald hx hb hK hP 0 0 rfl rfl g_6 d_Md_holder_6 ?_
      refine lv_icmp_ge (tgt := 40) hx hb d_Md_holder_7 (by decide) (fun c_7 => ?_) (fun c_7 => ?_)
      · replace hf := ob_et c_7 hf
        refine lv_bipush (v := (-6 : Int32)) hx hb d_Md_holder_40 (by decide) ?_
        cases hf
        exact kI hx hb hr hlk hP hD hS d_Md_holder_42
      · replace hf := ob_ef c_7 hf
        refine lv_aload_n hx hb d_Md_holder_10 rfl (lv_at hl 0 rfl) ?_
        refine lv_bipush (v := (40 : Int32)) hx hb d_Md_holder_11 (by decide) ?_
        refine lv_iload_n hx hb d_Md_holder_13 rfl (lv_at hl 2 rfl) ?_
        refine lv_iadd hx hb d_Md_holder_14 ?_
        obtain ⟨g_15, hf⟩ := og_e hf
        refine va_iald hx hb hK hP 0 0 rfl rfl g_15 d_Md_holder_15 ?_
        refine lv_if_ne (tgt := 34) hx hb d_Md_holder_16 (by decide) (fun c_16 => ?_) (fun c_16 => ?_)
        · replace hf := ob_ef c_16 hf
          refine lv_iinc (v := (l2 + (1 : Int32))) (lv' := [(2, .int (l2 + (1 : Int32))), (0, .ref a), (1, .int l1)]) hx hb d_Md_holder_34 hl (k := 2) rfl rfl (by decide) rfl (fun ls hl => ?_)
          refine lv_goto (tgt := 2) hx hb d_Md_holder_37 (by decide) ?_
          exact ih_2 l1 (l2 + (1 : Int32)) f _ _ ls hP hD hS (lv_sub hl [1, 2, 0] rfl) hf
        · replace hf := ob_et c_16 hf
          refine lv_aload_n hx hb d_Md_holder_19 rfl (lv_at hl 0 rfl) ?_
          refine lv_iload_n hx hb d_Md_holder_20 rfl (lv_at hl 2 rfl) ?_
          obtain ⟨q_21, hc_21, hf⟩ := oc_e hf
          refine kcS (cc := c_Md_holder) (own := "FloodDiaryModel") (index := 51) (wc := W_Row G 2400 a f) (wr := ([] : va_W)) (wc' := W_Row G 2400 a f) (ws' := W_Row G 2400 a f) hx hb hml hown hts hK hN hA hP hD hS (t_Md_pagesOf l G a l2 f q_21 hc_21) m_Md_pagesOf k_829 ⟨Nat.le_of_ble_eq_true rfl, Nat.le_of_ble_eq_true rfl⟩ (pm_0 (W_Row G 2400 a f)) (pm_0 (W_Row G 2400 a f)).symm rfl rfl (Nat.le_of_ble_eq_true rfl) hl.1 d_Md_holder_21 ⟨Nat.zero_le _, Nat.zero_le _⟩ (fun H locs hP hD hS => ?_)
          refine lv_iload_n hx hb d_Md_holder_24 rfl (lv_at hl 1 rfl) ?_
          refine lv_ishr hx hb d_Md_holder_25 ?_
          refine lv_iconst (v := (1 : Int32)) hx hb d_Md_holder_26 (by decide) ?_
          refine lv_iand hx hb d_Md_holder_27 ?_
          refine lv_iconst (v := (1 : Int32)) hx hb d_Md_holder_28 (by decide) ?_
          refine lv_icmp_ne (tgt := 34) hx hb d_Md_holder_29 (by decide) (fun c_29 => ?_) (fun c_29 => ?_)
          · replace hf := ob_ef c_29 hf
            refine lv_iinc (v := (l2 + (1 : Int32))) (lv' := [(2, .int (l2 + (1 : Int32))), (0, .ref a), (1, .int l1)]) hx hb d_Md_holder_34 hl (k := 2) rfl rfl (by decide) rfl (fun ls hl => ?_)
            refine lv_goto (tgt := 2) hx hb d_Md_holder_37 (by decide) ?_
            exact ih_2 l1 (l2 + (1 : Int32)) f _ _ ls hP hD hS (lv_sub hl [1, 2, 0] rfl) hf
          · replace hf := ob_et c_29 hf
            refine lv_iload_n hx hb d_Md_holder_32 rfl (lv_at hl 2 rfl) ?_
            cases hf
            exact kI hx hb hr hlk hP hD hS d_Md_holder_33
  unfold f_Md_holder at hf
  refine lv_iconst (v := (0 : Int32)) hx hb d_Md_holder_0 (by decide) ?_
  refine lv_istore_n (lv' := [(2, .int (0 : Int32)), (0, .ref a), (1, .int l1)]) hx hb d_Md_holder_1 rfl hl (by decide) rfl (fun ls hl => ?_)
  exact J_2 FU l1 (0 : Int32) f _ _ ls hP hD hS (lv_sub hl [1, 2, 0] rfl) hf
set_option maxHeartbeats 4000000 in
set_option maxRecDepth 100000 in
theorem t_Md_stepBack (l : Launch) (G : GG) (a : Nat) (l1 : Int32) (f : (Nat → Int32)) (q : (Nat → Int32)) (hf : f_Md_stepBack l1 f = some q) : MV l G y_Md_stepBack c_Md_stepBack 6 (rmk 3 70) (W_Row G 2400 a f) [.ref a, .int l1] (W_Row G 2400 a q) := by
  refine ofV "FloodDiaryModel" (by decide +kernel) rfl (Nat.le_of_ble_eq_true rfl) (fun p e s m args below meth c A ls hx hb hr hml hown hts hlk hK hN hA hP hD hS hl => ?_)
  have hl : lv_has ls 6 [(0, .ref a), (1, .int l1)] := hl
  unfold f_Md_stepBack at hf
  refine lv_aload_n hx hb d_Md_stepBack_0 rfl (lv_at hl 0 rfl) ?_
  refine lv_iload_n hx hb d_Md_stepBack_1 rfl (lv_at hl 1 rfl) ?_
  obtain ⟨q_2, hc_2, hf⟩ := oc_e hf
  refine kcS (cc := c_Md_stepBack) (own := "FloodDiaryModel") (index := 54) (wc := W_Row G 2400 a f) (wr := ([] : va_W)) (wc' := W_Row G 2400 a f) (ws' := W_Row G 2400 a f) hx hb hml hown hts hK hN hA hP hD hS (t_Md_goesOnWith l G a l1 f q_2 hc_2) m_Md_goesOnWith k_873 ⟨Nat.le_of_ble_eq_true rfl, Nat.le_of_ble_eq_true rfl⟩ (pm_0 (W_Row G 2400 a f)) (pm_0 (W_Row G 2400 a f)).symm rfl rfl (Nat.le_of_ble_eq_true rfl) hl.1 d_Md_stepBack_2 ⟨Nat.zero_le _, Nat.zero_le _⟩ (fun H locs hP hD hS => ?_)
  refine lv_istore_n (lv' := [(2, .int q_2), (0, .ref a), (1, .int l1)]) hx hb d_Md_stepBack_5 rfl hl (by decide) rfl (fun ls hl => ?_)
  refine lv_aload_n hx hb d_Md_stepBack_6 rfl (lv_at hl 1 rfl) ?_
  refine lv_iload_n hx hb d_Md_stepBack_7 rfl (lv_at hl 0 rfl) ?_
  obtain ⟨q_8, hc_8, hf⟩ := oc_e hf
  refine kcS (cc := c_Md_stepBack) (own := "FloodDiaryModel") (index := 43) (wc := ([] : va_W)) (wr := W_Row G 2400 a f) (wc' := ([] : va_W)) (ws' := W_Row G 2400 a f) hx hb hml hown hts hK hN hA hP hD hS (t_Md_at l G q_2 q_8 hc_8) m_Md_at k_805 ⟨Nat.le_of_ble_eq_true rfl, Nat.le_of_ble_eq_true rfl⟩ (List.Perm.refl _) (List.Perm.refl _) rfl rfl (Nat.le_of_ble_eq_true rfl) hl.1 d_Md_stepBack_8 ⟨Nat.zero_le _, Nat.zero_le _⟩ (fun H locs hP hD hS => ?_)
  refine lv_iconst (v := (0 : Int32)) hx hb d_Md_stepBack_11 (by decide) ?_
  refine lv_iadd hx hb d_Md_stepBack_12 ?_
  obtain ⟨g_13, hf⟩ := og_e hf
  refine va_iald hx hb hK hP 0 0 rfl rfl g_13 d_Md_stepBack_13 ?_
  refine lv_if_ne (tgt := 40) hx hb d_Md_stepBack_14 (by decide) (fun c_14 => ?_) (fun c_14 => ?_)
  · replace hf := ob_ef c_14 hf
    refine lv_aload_n hx hb d_Md_stepBack_40 rfl (lv_at hl 1 rfl) ?_
    refine lv_iload_n hx hb d_Md_stepBack_41 rfl (lv_at hl 0 rfl) ?_
    obtain ⟨q_42, hc_42, hf⟩ := oc_e hf
    refine kcS (cc := c_Md_stepBack) (own := "FloodDiaryModel") (index := 43) (wc := ([] : va_W)) (wr := W_Row G 2400 a f) (wc' := ([] : va_W)) (ws' := W_Row G 2400 a f) hx hb hml hown hts hK hN hA hP hD hS (t_Md_at l G q_2 q_42 hc_42) m_Md_at k_805 ⟨Nat.le_of_ble_eq_true rfl, Nat.le_of_ble_eq_true rfl⟩ (List.Perm.refl _) (List.Perm.refl _) rfl rfl (Nat.le_of_ble_eq_true rfl) hl.1 d_Md_stepBack_42 ⟨Nat.zero_le _, Nat.zero_le _⟩ (fun H locs hP hD hS => ?_)
    refine lv_iconst (v := (3 : Int32)) hx hb d_Md_stepBack_45 (by decide) ?_
    refine lv_iadd hx hb d_Md_stepBack_46 ?_
    obtain ⟨g_47, hf⟩ := og_e hf
    refine va_iald hx hb hK hP 0 0 rfl rfl g_47 d_Md_stepBack_47 ?_
    refine lv_istore_n (lv' := [(3, .int (f (q_42 + (3 : Int32)).toNatClampNeg)), (2, .int q_2), (0, .ref a), (1, .int l1)]) hx hb d_Md_stepBack_48 rfl hl (by decide) rfl (fun ls hl => ?_)
    refine lv_aload_n hx hb d_Md_stepBack_49 rfl (lv_at hl 2 rfl) ?_
    refine lv_iload_n hx hb d_Md_stepBack_50 rfl (lv_at hl 1 rfl) ?_
    obtain ⟨q_51, hc_51, hf⟩ := oc_e hf
    refine kcS (cc := c_Md_stepBack) (own := "FloodDiaryModel") (index := 43) (wc := ([] : va_W)) (wr := W_Row G 2400 a f) (wc' := ([] : va_W)) (ws' := W_Row G 2400 a f) hx hb hml hown hts hK hN hA hP hD hS (t_Md_at l G q_2 q_51 hc_51) m_Md_at k_805 ⟨Nat.le_of_ble_eq_true rfl, Nat.le_of_ble_eq_true rfl⟩ (List.Perm.refl _) (List.Perm.refl _) rfl rfl (Nat.le_of_ble_eq_true rfl) hl.1 d_Md_stepBack_51 ⟨Nat.zero_le _, Nat.zero_le _⟩ (fun H locs hP hD hS => ?_)
    refine lv_iconst (v := (4 : Int32)) hx hb d_Md_stepBack_54 (by decide) ?_
    refine lv_iadd hx hb d_Md_stepBack_55 ?_
    obtain ⟨g_56, hf⟩ := og_e hf
    refine va_iald hx hb hK hP 0 0 rfl rfl g_56 d_Md_stepBack_56 ?_
    refine lv_istore (lv' := [(4, .int (f (q_51 + (4 : Int32)).toNatClampNeg)), (3, .int (f (q_42 + (3 : Int32)).toNatClampNeg)), (2, .int q_2), (0, .ref a), (1, .int l1)]) hx hb d_Md_stepBack_57 hl (by decide) rfl (fun ls hl => ?_)
    refine lv_aload_n hx hb d_Md_stepBack_59 rfl (lv_at hl 3 rfl) ?_
    refine lv_iconst (v := (2 : Int32)) hx hb d_Md_stepBack_60 (by decide) ?_
    refine lv_iload_n hx hb d_Md_stepBack_61 rfl (lv_at hl 4 rfl) ?_
    refine lv_iload_n hx hb d_Md_stepBack_62 rfl (lv_at hl 1 rfl) ?_
    refine lv_bipush (v := (-6 : Int32)) hx hb d_Md_stepBack_63 (by decide) ?_
    refine lv_iload hx hb d_Md_stepBack_65 (lv_at hl 0 rfl) ?_
    refine lv_aload_n hx hb d_Md_stepBack_67 rfl (lv_at hl 3 rfl) ?_
    refine lv_iload_n hx hb d_Md_stepBack_68 rfl (lv_at hl 2 rfl) ?_
    obtain ⟨q_69, hc_69, hf⟩ := oc_e hf
    refine kcS (cc := c_Md_stepBack) (own := "FloodDiaryModel") (index := 43) (wc := ([] : va_W)) (wr := W_Row G 2400 a f) (wc' := ([] : va_W)) (ws' := W_Row G 2400 a f) hx hb hml hown hts hK hN hA hP hD hS (t_Md_at l G q_2 q_69 hc_69) m_Md_at k_805 ⟨Nat.le_of_ble_eq_true rfl, Nat.le_of_ble_eq_true rfl⟩ (List.Perm.refl _) (List.Perm.refl _) rfl rfl (Nat.le_of_ble_eq_true rfl) hl.1 d_Md_stepBack_69 ⟨Nat.zero_le _, Nat.zero_le _⟩ (fun H locs hP hD hS => ?_)
    refine lv_iconst (v := (2 : Int32)) hx hb d_Md_stepBack_72 (by decide) ?_
    refine lv_iadd hx hb d_Md_stepBack_73 ?_
    obtain ⟨g_74, hf⟩ := og_e hf
    refine va_iald hx hb hK hP 0 0 rfl rfl g_74 d_Md_stepBack_74 ?_
    obtain ⟨q_75, hc_75, hf⟩ := oc_e hf
    refine kcS (cc := c_Md_stepBack) (own := "FloodDiaryModel") (index := 57) (wc := W_Row G 2400 a f) (wr := ([] : va_W)) (wc' := W_Row G 2400 a q_75.2) (ws' := W_Row G 2400 a q_75.2) hx hb hml hown hts hK hN hA hP hD hS (t_Md_enter l G a (2 : Int32) l1 (f (q_42 + (3 : Int32)).toNatClampNeg) (-6 : Int32) (f (q_51 + (4 : Int32)).toNatClampNeg) (f (q_69 + (2 : Int32)).toNatClampNeg) f q_75 hc_75) m_Md_enter k_799 ⟨Nat.le_of_ble_eq_true rfl, Nat.le_of_ble_eq_true rfl⟩ (pm_0 (W_Row G 2400 a f)) (pm_0 (W_Row G 2400 a q_75.2)).symm rfl rfl (Nat.le_of_ble_eq_true rfl) hl.1 d_Md_stepBack_75 ⟨Nat.zero_le _, Nat.zero_le _⟩ (fun H locs hP hD hS => ?_)
    refine lv_istore (lv' := [(5, .int q_75.1), (4, .int (f (q_51 + (4 : Int32)).toNatClampNeg)), (3, .int (f (q_42 + (3 : Int32)).toNatClampNeg)), (2, .int q_2), (0, .ref a), (1, .int l1)]) hx hb d_Md_stepBack_78 hl (by decide) rfl (fun ls hl => ?_)
    refine lv_aload_n hx hb d_Md_stepBack_80 rfl (lv_at hl 4 rfl) ?_
    refine lv_iload_n hx hb d_Md_stepBack_81 rfl (lv_at hl 2 rfl) ?_
    refine lv_iload hx hb d_Md_stepBack_82 (lv_at hl 1 rfl) ?_
    refine lv_iload hx hb d_Md_stepBack_84 (lv_at hl 0 rfl) ?_
    obtain ⟨q_86, hc_86, hf⟩ := oc_e hf
    refine kcSv (cc := c_Md_stepBack) (own := "FloodDiaryModel") (index := 61) (wc := W_Row G 2400 a q_75.2) (wr := ([] : va_W)) (wc' := W_Row G 2400 a q_86) (ws' := W_Row G 2400 a q_86) hx hb hml hown hts hK hN hA hP hD hS (t_Md_change l G a (f (q_42 + (3 : Int32)).toNatClampNeg) (f (q_51 + (4 : Int32)).toNatClampNeg) q_75.1 q_75.2 q_86 hc_86) m_Md_change k_841 ⟨Nat.le_of_ble_eq_true rfl, Nat.le_of_ble_eq_true rfl⟩ (pm_0 (W_Row G 2400 a q_75.2)) (pm_0 (W_Row G 2400 a q_86)).symm rfl rfl (Nat.le_of_ble_eq_true rfl) hl.1 d_Md_stepBack_86 ⟨Nat.zero_le _, Nat.zero_le _⟩ (fun H locs hP hD hS => ?_)
    cases hf
    exact kV hx hb hr hlk hP hD hS d_Md_stepBack_89
  · replace hf := ob_et c_14 hf
    refine lv_aload_n hx hb d_Md_stepBack_17 rfl (lv_at hl 1 rfl) ?_
    refine lv_iconst (v := (4 : Int32)) hx hb d_Md_stepBack_18 (by decide) ?_
    refine lv_iload_n hx hb d_Md_stepBack_19 rfl (lv_at hl 2 rfl) ?_
    refine lv_bipush (v := (-6 : Int32)) hx hb d_Md_stepBack_20 (by decide) ?_
    refine lv_bipush (v := (-6 : Int32)) hx hb d_Md_stepBack_22 (by decide) ?_
    refine lv_bipush (v := (-6 : Int32)) hx hb d_Md_stepBack_24 (by decide) ?_
    refine lv_bipush (v := (-6 : Int32)) hx hb d_Md_stepBack_26 (by decide) ?_
    obtain ⟨q_28, hc_28, hf⟩ := oc_e hf
    refine kcS (cc := c_Md_stepBack) (own := "FloodDiaryModel") (index := 57) (wc := W_Row G 2400 a f) (wr := ([] : va_W)) (wc' := W_Row G 2400 a q_28.2) (ws' := W_Row G 2400 a q_28.2) hx hb hml hown hts hK hN hA hP hD hS (t_Md_enter l G a (4 : Int32) l1 (-6 : Int32) (-6 : Int32) (-6 : Int32) (-6 : Int32) f q_28 hc_28) m_Md_enter k_799 ⟨Nat.le_of_ble_eq_true rfl, Nat.le_of_ble_eq_true rfl⟩ (pm_0 (W_Row G 2400 a f)) (pm_0 (W_Row G 2400 a q_28.2)).symm rfl rfl (Nat.le_of_ble_eq_true rfl) hl.1 d_Md_stepBack_28 ⟨Nat.zero_le _, Nat.zero_le _⟩ (fun H locs hP hD hS => ?_)
    refine lv_pop hx hb d_Md_stepBack_31 rfl ?_
    refine lv_aload_n hx hb d_Md_stepBack_32 rfl (lv_at hl 1 rfl) ?_
    refine lv_bipush (v := (40 : Int32)) hx hb d_Md_stepBack_33 (by decide) ?_
    refine lv_iload_n hx hb d_Md_stepBack_35 rfl (lv_at hl 2 rfl) ?_
    refine lv_iadd hx hb d_Md_stepBack_36 ?_
    refine lv_iconst (v := (2 : Int32)) hx hb d_Md_stepBack_37 (by decide) ?_
    obtain ⟨g_38, hf⟩ := og_e hf
    obtain ⟨r_38, er_38, hf⟩ := nx_e hf
    refine va_iast hx hb hK hP hD hS 0 0 rfl rfl g_38 d_Md_stepBack_38 (fun H locs hP hD hS => ?_)
    rw [← er_38] at hP hD
    have hP : va_P G.1 vwCl (W_Row G 2400 a r_38) H := hP
    have hD : va_D A (W_Row G 2400 a r_38) := hD
    cases hf
    exact kV hx hb hr hlk hP hD hS d_Md_stepBack_39
set_option maxHeartbeats 4000000 in
set_option maxRecDepth 100000 in
theorem t_Md_tearOn (l : Launch) (G : GG) (a : Nat) (l1 : Int32) (f : (Nat → Int32)) (q : Int32 × (Nat → Int32)) (hf : f_Md_tearOn l1 f = some q) : MI l G y_Md_tearOn c_Md_tearOn 3 (some .int) (rmk 4 95) (W_Row G 2400 a f) [.ref a, .int l1] (W_Row G 2400 a q.2) (q.1) := by
  refine ofI "FloodDiaryModel" (by decide +kernel) rfl (Nat.le_of_ble_eq_true rfl) (fun p e s m args below meth c A ls hx hb hr hml hown hts hlk hK hN hA hP hD hS hl => ?_)
  have hl : lv_has ls 3 [(0, .ref a), (1, .int l1)] := hl
  have J_2 : ∀ (n_2 : Nat) (l1 : Int32) (l2 : Int32) (f : (Nat → Int32)) (H : Heap) (locs : List Loc) (ls : Array Slot), va_P G.1 vwCl (W_Row G 2400 a f) H → va_D A (W_Row G 2400 a f) → va_S A s.heap H locs → lv_has ls 3 [(0, .ref a), (1, .int l1), (2, .int l2)] → f_Md_tearOn_2 n_2 l1 l2 f = some q → W p l e (rmk 4 95) s m args below meth c H locs 0 0 (MQ below (qI G A (W_Row G 2400 a q.2) (q.1)) args s 0 0 A) (F0 m 2 ls []) := by
    intro n_2
    induction n_2 with
    | zero => intro l1 l2 f H locs ls hP hD hS hl hf; exact absurd hf (by unfold f_Md_tearOn_2; exact fun z => by cases z)
    | succ n_2 ih_2 =>
      intro l1 l2 f H locs ls hP hD hS hl hf
      rw [f_Md_tearOn_2] at hf
      refine lv_aload_n hx hb d_Md_tearOn_2 rfl (lv_at hl 0 rfl) ?_
      refine lv_bipush (v := (40 : Int32)) hx hb d_Md_tearOn_3 (by decide) ?_
      refine lv_iload_n hx hb d_Md_tearOn_5 rfl (lv_at hl 1 rfl) ?_
      refine lv_iadd hx hb d_Md_tearOn_6 ?_
      obtain ⟨g_7, hf⟩ := og_e hf
      refine va_iald hx hb hK hP 0 0 rfl rfl g_7 d_Md_tearOn_7 ?_
      refine lv_if_ne (tgt := 22) hx hb d_Md_tearOn_8 (by decide) (fun c_8 => ?_) (fun c_8 => ?_)
      · replace hf := ob_ef c_8 hf
        refine lv_iload_n hx hb d_Md_tearOn_22 rfl (lv_at hl 2 rfl) ?_
        cases hf
        exact kI hx hb hr hlk hP hD hS d_Md_tearOn_23
      · replace hf := ob_et c_8 hf
        refine lv_aload_n hx hb d_Md_tearOn_11 rfl (lv_at hl 0 rfl) ?_
        refine lv_iload_n hx hb d_Md_tearOn_12 rfl (lv_at hl 1 rfl) ?_
        obtain ⟨q_13, hc_13, hf⟩ := oc_e hf
        refine kcSv (cc := c_Md_tearOn) (own := "FloodDiaryModel") (index := 65) (wc := W_Row G 2400 a f) (wr := ([] : va_W)) (wc' := W_Row G 2400 a q_13) (ws' := W_Row G 2400 a q_13) hx hb hml hown hts hK hN hA hP hD hS (t_Md_stepBack l G a l1 f q_13 hc_13) m_Md_stepBack k_870 ⟨Nat.le_of_ble_eq_true rfl, Nat.le_of_ble_eq_true rfl⟩ (pm_0 (W_Row G 2400 a f)) (pm_0 (W_Row G 2400 a q_13)).symm rfl rfl (Nat.le_of_ble_eq_true rfl) hl.1 d_Md_tearOn_13 ⟨Nat.zero_le _, Nat.zero_le _⟩ (fun H locs hP hD hS => ?_)
        refine lv_iinc (v := (l2 + (1 : Int32))) (lv' := [(2, .int (l2 + (1 : Int32))), (0, .ref a), (1, .int l1)]) hx hb d_Md_tearOn_16 hl (k := 2) rfl rfl (by decide) rfl (fun ls hl => ?_)
        refine lv_goto (tgt := 2) hx hb d_Md_tearOn_19 (by decide) ?_
        exact ih_2 l1 (l2 + (1 : Int32)) q_13 _ _ ls hP hD hS (lv_sub hl [1, 2, 0] rfl) hf
  unfold f_Md_tearOn at hf
  refine lv_iconst (v := (0 : Int32)) hx hb d_Md_tearOn_0 (by decide) ?_
  refine lv_istore_n (lv' := [(2, .int (0 : Int32)), (0, .ref a), (1, .int l1)]) hx hb d_Md_tearOn_1 rfl hl (by decide) rfl (fun ls hl => ?_)
  exact J_2 FU l1 (0 : Int32) f _ _ ls hP hD hS (lv_sub hl [1, 2, 0] rfl) hf
set_option maxHeartbeats 4000000 in
set_option maxRecDepth 100000 in
theorem t_Md_stepsToTear (l : Launch) (G : GG) (a : Nat) (l1 : Int32) (f : (Nat → Int32)) (q : Int32) (hf : f_Md_stepsToTear l1 f = some q) : MI l G y_Md_stepsToTear c_Md_stepsToTear 4 (some .int) (rmk 1 20) (W_Row G 2400 a f) [.ref a, .int l1] (W_Row G 2400 a f) (q) := by
  refine ofI "FloodDiaryModel" (by decide +kernel) rfl (Nat.le_of_ble_eq_true rfl) (fun p e s m args below meth c A ls hx hb hr hml hown hts hlk hK hN hA hP hD hS hl => ?_)
  have hl : lv_has ls 4 [(0, .ref a), (1, .int l1)] := hl
  have J_4 : ∀ (n_4 : Nat) (l1 : Int32) (l2 : Int32) (l3 : Int32) (f : (Nat → Int32)) (H : Heap) (locs : List Loc) (ls : Array Slot), va_P G.1 vwCl (W_Row G 2400 a f) H → va_D A (W_Row G 2400 a f) → va_S A s.heap H locs → lv_has ls 4 [(0, .ref a), (1, .int l1), (2, .int l2), (3, .int l3)] → f_Md_stepsToTear_4 n_4 l1 l2 l3 f = some q → W p l e (rmk 1 20) s m args below meth c H locs 0 0 (MQ below (qI G A (W_Row G 2400 a f) (q)) args s 0 0 A) (F0 m 4 ls []) := by
    intro n_4
    induction n_4 with
    | zero => intro l1 l2 l3 f H locs ls hP hD hS hl hf; exact absurd hf (by unfold f_Md_stepsToTear_4; exact fun z => by cases z)
    | succ n_4 ih_4 =>
      intro l1 l2 l3 f H locs ls hP hD hS hl hf
      rw [f_Md_stepsToTear_4] at hf
      refine lv_iload_n hx hb d_Md_stepsToTear_4 rfl (lv_at hl 3 rfl) ?_
      refine lv_aload_n hx hb d_Md_stepsToTear_5 rfl (lv_at hl 0 rfl) ?_
      refine lv_bipush (v := (57 : Int32)) hx hb d_Md_stepsToTear_6 (by decide) ?_
      obtain ⟨g_8, hf⟩ := og_e hf
      refine va_iald hx hb hK hP 0 0 rfl rfl g_8 d_Md_stepsToTear_8 ?_
      refine lv_icmp_gt (tgt := 50) hx hb d_Md_stepsToTear_9 (by decide) (fun c_9 => ?_) (fun c_9 => ?_)
      · replace hf := ob_et c_9 hf
        refine lv_iload_n hx hb d_Md_stepsToTear_50 rfl (lv_at hl 2 rfl) ?_
        cases hf
        exact kI hx hb hr hlk hP hD hS d_Md_stepsToTear_51
      · replace hf := ob_ef c_9 hf
        refine lv_iload_n hx hb d_Md_stepsToTear_12 rfl (lv_at hl 2 rfl) ?_
        refine lv_aload_n hx hb d_Md_stepsToTear_13 rfl (lv_at hl 0 rfl) ?_
        refine lv_iload_n hx hb d_Md_stepsToTear_14 rfl (lv_at hl 3 rfl) ?_
        obtain ⟨q_15, hc_15, hf⟩ := oc_e hf
        refine kcS (cc := c_Md_stepsToTear) (own := "FloodDiaryModel") (index := 43) (wc := ([] : va_W)) (wr := W_Row G 2400 a f) (wc' := ([] : va_W)) (ws' := W_Row G 2400 a f) hx hb hml hown hts hK hN hA hP hD hS (t_Md_at l G l3 q_15 hc_15) m_Md_at k_805 ⟨Nat.le_of_ble_eq_true rfl, Nat.le_of_ble_eq_true rfl⟩ (List.Perm.refl _) (List.Perm.refl _) rfl rfl (Nat.le_of_ble_eq_true rfl) hl.1 d_Md_stepsToTear_15 ⟨Nat.zero_le _, Nat.zero_le _⟩ (fun H locs hP hD hS => ?_)
        refine lv_iconst (v := (1 : Int32)) hx hb d_Md_stepsToTear_18 (by decide) ?_
        refine lv_iadd hx hb d_Md_stepsToTear_19 ?_
        obtain ⟨g_20, hf⟩ := og_e hf
        refine va_iald hx hb hK hP 0 0 rfl rfl g_20 d_Md_stepsToTear_20 ?_
        refine lv_iload_n hx hb d_Md_stepsToTear_21 rfl (lv_at hl 1 rfl) ?_
        refine lv_icmp_ne (tgt := 41) hx hb d_Md_stepsToTear_22 (by decide) (fun c_22 => ?_) (fun c_22 => ?_)
        · replace hf := ob_ef c_22 hf
          refine lv_iconst (v := (0 : Int32)) hx hb d_Md_stepsToTear_41 (by decide) ?_
          refine lv_iadd hx hb d_Md_stepsToTear_42 ?_
          refine lv_istore_n (lv' := [(2, .int (l2 + (0 : Int32))), (0, .ref a), (1, .int l1), (3, .int l3)]) hx hb d_Md_stepsToTear_43 rfl hl (by decide) rfl (fun ls hl => ?_)
          refine lv_iinc (v := (l3 + (1 : Int32))) (lv' := [(3, .int (l3 + (1 : Int32))), (2, .int (l2 + (0 : Int32))), (0, .ref a), (1, .int l1)]) hx hb d_Md_stepsToTear_44 hl (k := 3) rfl rfl (by decide) rfl (fun ls hl => ?_)
          refine lv_goto (tgt := 4) hx hb d_Md_stepsToTear_47 (by decide) ?_
          exact ih_4 l1 (l2 + (0 : Int32)) (l3 + (1 : Int32)) f _ _ ls hP hD hS (lv_sub hl [2, 3, 1, 0] rfl) hf
        · replace hf := ob_et c_22 hf
          refine lv_aload_n hx hb d_Md_stepsToTear_25 rfl (lv_at hl 0 rfl) ?_
          refine lv_iload_n hx hb d_Md_stepsToTear_26 rfl (lv_at hl 3 rfl) ?_
          obtain ⟨q_27, hc_27, hf⟩ := oc_e hf
          refine kcS (cc := c_Md_stepsToTear) (own := "FloodDiaryModel") (index := 43) (wc := ([] : va_W)) (wr := W_Row G 2400 a f) (wc' := ([] : va_W)) (ws' := W_Row G 2400 a f) hx hb hml hown hts hK hN hA hP hD hS (t_Md_at l G l3 q_27 hc_27) m_Md_at k_805 ⟨Nat.le_of_ble_eq_true rfl, Nat.le_of_ble_eq_true rfl⟩ (List.Perm.refl _) (List.Perm.refl _) rfl rfl (Nat.le_of_ble_eq_true rfl) hl.1 d_Md_stepsToTear_27 ⟨Nat.zero_le _, Nat.zero_le _⟩ (fun H locs hP hD hS => ?_)
          refine lv_iconst (v := (0 : Int32)) hx hb d_Md_stepsToTear_30 (by decide) ?_
          refine lv_iadd hx hb d_Md_stepsToTear_31 ?_
          obtain ⟨g_32, hf⟩ := og_e hf
          refine va_iald hx hb hK hP 0 0 rfl rfl g_32 d_Md_stepsToTear_32 ?_
          refine lv_iconst (v := (1 : Int32)) hx hb d_Md_stepsToTear_33 (by decide) ?_
          refine lv_icmp_ne (tgt := 41) hx hb d_Md_stepsToTear_34 (by decide) (fun c_34 => ?_) (fun c_34 => ?_)
          · replace hf := ob_ef c_34 hf
            refine lv_iconst (v := (0 : Int32)) hx hb d_Md_stepsToTear_41 (by decide) ?_
            refine lv_iadd hx hb d_Md_stepsToTear_42 ?_
            refine lv_istore_n (lv' := [(2, .int (l2 + (0 : Int32))), (0, .ref a), (1, .int l1), (3, .int l3)]) hx hb d_Md_stepsToTear_43 rfl hl (by decide) rfl (fun ls hl => ?_)
            refine lv_iinc (v := (l3 + (1 : Int32))) (lv' := [(3, .int (l3 + (1 : Int32))), (2, .int (l2 + (0 : Int32))), (0, .ref a), (1, .int l1)]) hx hb d_Md_stepsToTear_44 hl (k := 3) rfl rfl (by decide) rfl (fun ls hl => ?_)
            refine lv_goto (tgt := 4) hx hb d_Md_stepsToTear_47 (by decide) ?_
            exact ih_4 l1 (l2 + (0 : Int32)) (l3 + (1 : Int32)) f _ _ ls hP hD hS (lv_sub hl [2, 3, 1, 0] rfl) hf
          · replace hf := ob_et c_34 hf
            refine lv_iconst (v := (1 : Int32)) hx hb d_Md_stepsToTear_37 (by decide) ?_
            refine lv_goto (tgt := 42) hx hb d_Md_stepsToTear_38 (by decide) ?_
            refine lv_iadd hx hb d_Md_stepsToTear_42 ?_
            refine lv_istore_n (lv' := [(2, .int (l2 + (1 : Int32))), (0, .ref a), (1, .int l1), (3, .int l3)]) hx hb d_Md_stepsToTear_43 rfl hl (by decide) rfl (fun ls hl => ?_)
            refine lv_iinc (v := (l3 + (1 : Int32))) (lv' := [(3, .int (l3 + (1 : Int32))), (2, .int (l2 + (1 : Int32))), (0, .ref a), (1, .int l1)]) hx hb d_Md_stepsToTear_44 hl (k := 3) rfl rfl (by decide) rfl (fun ls hl => ?_)
            refine lv_goto (tgt := 4) hx hb d_Md_stepsToTear_47 (by decide) ?_
            exact ih_4 l1 (l2 + (1 : Int32)) (l3 + (1 : Int32)) f _ _ ls hP hD hS (lv_sub hl [2, 3, 1, 0] rfl) hf
  unfold f_Md_stepsToTear at hf
  refine lv_iconst (v := (1 : Int32)) hx hb d_Md_stepsToTear_0 (by decide) ?_
  refine lv_istore_n (lv' := [(2, .int (1 : Int32)), (0, .ref a), (1, .int l1)]) hx hb d_Md_stepsToTear_1 rfl hl (by decide) rfl (fun ls hl => ?_)
  refine lv_iconst (v := (1 : Int32)) hx hb d_Md_stepsToTear_2 (by decide) ?_
  refine lv_istore_n (lv' := [(3, .int (1 : Int32)), (2, .int (1 : Int32)), (0, .ref a), (1, .int l1)]) hx hb d_Md_stepsToTear_3 rfl hl (by decide) rfl (fun ls hl => ?_)
  exact J_4 FU l1 (1 : Int32) (1 : Int32) f _ _ ls hP hD hS (lv_sub hl [2, 3, 1, 0] rfl) hf
set_option maxHeartbeats 4000000 in
set_option maxRecDepth 100000 in
theorem t_Md_saveTo (l : Launch) (G : GG) (a : Nat) (l1 : Int32) (f : (Nat → Int32)) (q : (Nat → Int32)) (hf : f_Md_saveTo l1 f = some q) : MV l G y_Md_saveTo c_Md_saveTo 2 (rmk 0 0) (W_Row G 2400 a f) [.ref a, .int l1] (W_Row G 2400 a q) := by
  refine ofV "FloodDiaryModel" (by decide +kernel) rfl (Nat.le_of_ble_eq_true rfl) (fun p e s m args below meth c A ls hx hb hr hml hown hts hlk hK hN hA hP hD hS hl => ?_)
  have hl : lv_has ls 2 [(0, .ref a), (1, .int l1)] := hl
  unfold f_Md_saveTo at hf
  refine lv_aload_n hx hb d_Md_saveTo_0 rfl (lv_at hl 0 rfl) ?_
  refine lv_bipush (v := (58 : Int32)) hx hb d_Md_saveTo_1 (by decide) ?_
  refine lv_aload_n hx hb d_Md_saveTo_3 rfl (lv_at hl 0 rfl) ?_
  refine lv_bipush (v := (58 : Int32)) hx hb d_Md_saveTo_4 (by decide) ?_
  obtain ⟨g_6, hf⟩ := og_e hf
  refine va_iald hx hb hK hP 0 0 rfl rfl g_6 d_Md_saveTo_6 ?_
  refine lv_iload_n hx hb d_Md_saveTo_7 rfl (lv_at hl 1 rfl) ?_
  refine lv_icmp_le (tgt := 18) hx hb d_Md_saveTo_8 (by decide) (fun c_8 => ?_) (fun c_8 => ?_)
  · replace hf := ob_et c_8 hf
    refine lv_iload_n hx hb d_Md_saveTo_18 rfl (lv_at hl 1 rfl) ?_
    obtain ⟨g_19, hf⟩ := og_e hf
    obtain ⟨r_19, er_19, hf⟩ := nx_e hf
    refine va_iast hx hb hK hP hD hS 0 0 rfl rfl g_19 d_Md_saveTo_19 (fun H locs hP hD hS => ?_)
    rw [← er_19] at hP hD
    have hP : va_P G.1 vwCl (W_Row G 2400 a r_19) H := hP
    have hD : va_D A (W_Row G 2400 a r_19) := hD
    cases hf
    exact kV hx hb hr hlk hP hD hS d_Md_saveTo_20
  · replace hf := ob_ef c_8 hf
    refine lv_aload_n hx hb d_Md_saveTo_11 rfl (lv_at hl 0 rfl) ?_
    refine lv_bipush (v := (58 : Int32)) hx hb d_Md_saveTo_12 (by decide) ?_
    obtain ⟨g_14, hf⟩ := og_e hf
    refine va_iald hx hb hK hP 0 0 rfl rfl g_14 d_Md_saveTo_14 ?_
    refine lv_goto (tgt := 19) hx hb d_Md_saveTo_15 (by decide) ?_
    obtain ⟨g_19, hf⟩ := og_e hf
    obtain ⟨r_19, er_19, hf⟩ := nx_e hf
    refine va_iast hx hb hK hP hD hS 0 0 rfl rfl g_19 d_Md_saveTo_19 (fun H locs hP hD hS => ?_)
    rw [← er_19] at hP hD
    have hP : va_P G.1 vwCl (W_Row G 2400 a r_19) H := hP
    have hD : va_D A (W_Row G 2400 a r_19) := hD
    cases hf
    exact kV hx hb hr hlk hP hD hS d_Md_saveTo_20
set_option maxHeartbeats 4000000 in
set_option maxRecDepth 100000 in
theorem t_Md_lose (l : Launch) (G : GG) (a : Nat) (l1 : Int32) (f : (Nat → Int32)) (q : (Nat → Int32)) (hf : f_Md_lose l1 f = some q) : MV l G y_Md_lose c_Md_lose 5 (rmk 1 20) (W_Row G 2400 a f) [.ref a, .int l1] (W_Row G 2400 a q) := by
  refine ofV "FloodDiaryModel" (by decide +kernel) rfl (Nat.le_of_ble_eq_true rfl) (fun p e s m args below meth c A ls hx hb hr hml hown hts hlk hK hN hA hP hD hS hl => ?_)
  have hl : lv_has ls 5 [(0, .ref a), (1, .int l1)] := hl
  have J_45 : ∀ (n_45 : Nat) (l1 : Int32) (l2 : Int32) (f : (Nat → Int32)) (H : Heap) (locs : List Loc) (ls : Array Slot), va_P G.1 vwCl (W_Row G 2400 a f) H → va_D A (W_Row G 2400 a f) → va_S A s.heap H locs → lv_has ls 5 [(0, .ref a), (1, .int l1), (2, .int l2)] → f_Md_lose_45 n_45 l1 l2 f = some q → W p l e (rmk 1 20) s m args below meth c H locs 0 0 (MQ below (qV G A (W_Row G 2400 a q)) args s 0 0 A) (F0 m 45 ls []) := by
    intro n_45
    induction n_45 with
    | zero => intro l1 l2 f H locs ls hP hD hS hl hf; exact absurd hf (by unfold f_Md_lose_45; exact fun z => by cases z)
    | succ n_45 ih_45 =>
      have J_104 : ∀ (l1 : Int32) (l2 : Int32) (l3 : Int32) (l4 : Int32) (f : (Nat → Int32)) (H : Heap) (locs : List Loc) (ls : Array Slot), va_P G.1 vwCl (W_Row G 2400 a f) H → va_D A (W_Row G 2400 a f) → va_S A s.heap H locs → lv_has ls 5 [(0, .ref a), (1, .int l1), (2, .int l2), (3, .int l3), (4, .int l4)] → f_Md_lose_104 (f_Md_lose_45 n_45) l1 l2 l3 l4 f = some q → W p l e (rmk 1 20) s m args below meth c H locs 0 0 (MQ below (qV G A (W_Row G 2400 a q)) args s 0 0 A) (F0 m 104 ls []) := by
        intro l1 l2 l3 l4 f H locs ls hP hD hS hl hf
        unfold f_Md_lose_104 at hf
        refine lv_aload_n hx hb d_Md_lose_104 rfl (lv_at hl 0 rfl) ?_
        refine lv_bipush (v := (40 : Int32)) hx hb d_Md_lose_105 (by decide) ?_
        refine lv_iload_n hx hb d_Md_lose_107 rfl (lv_at hl 3 rfl) ?_
        refine lv_iadd hx hb d_Md_lose_108 ?_
        refine lv_iload hx hb d_Md_lose_109 (lv_at hl 4 rfl) ?_
        refine lv_iconst (v := (3 : Int32)) hx hb d_Md_lose_111 (by decide) ?_
        refine lv_icmp_ne (tgt := 119) hx hb d_Md_lose_112 (by decide) (fun c_112 => ?_) (fun c_112 => ?_)
        · replace hf := ob_ef c_112 hf
          refine lv_iconst (v := (2 : Int32)) hx hb d_Md_lose_119 (by decide) ?_
          obtain ⟨g_120, hf⟩ := og_e hf
          obtain ⟨r_120, er_120, hf⟩ := nx_e hf
          refine va_iast hx hb hK hP hD hS 0 0 rfl rfl g_120 d_Md_lose_120 (fun H locs hP hD hS => ?_)
          rw [← er_120] at hP hD
          have hP : va_P G.1 vwCl (W_Row G 2400 a r_120) H := hP
          have hD : va_D A (W_Row G 2400 a r_120) := hD
          refine lv_iinc (v := (l2 + (1 : Int32))) (lv' := [(2, .int (l2 + (1 : Int32))), (0, .ref a), (1, .int l1), (3, .int l3), (4, .int l4)]) hx hb d_Md_lose_121 hl (k := 2) rfl rfl (by decide) rfl (fun ls hl => ?_)
          refine lv_goto (tgt := 45) hx hb d_Md_lose_124 (by decide) ?_
          exact ih_45 l1 (l2 + (1 : Int32)) r_120 _ _ ls hP hD hS (lv_sub hl [1, 2, 0] rfl) hf
        · replace hf := ob_et c_112 hf
          refine lv_iconst (v := (1 : Int32)) hx hb d_Md_lose_115 (by decide) ?_
          refine lv_goto (tgt := 120) hx hb d_Md_lose_116 (by decide) ?_
          obtain ⟨g_120, hf⟩ := og_e hf
          obtain ⟨r_120, er_120, hf⟩ := nx_e hf
          refine va_iast hx hb hK hP hD hS 0 0 rfl rfl g_120 d_Md_lose_120 (fun H locs hP hD hS => ?_)
          rw [← er_120] at hP hD
          have hP : va_P G.1 vwCl (W_Row G 2400 a r_120) H := hP
          have hD : va_D A (W_Row G 2400 a r_120) := hD
          refine lv_iinc (v := (l2 + (1 : Int32))) (lv' := [(2, .int (l2 + (1 : Int32))), (0, .ref a), (1, .int l1), (3, .int l3), (4, .int l4)]) hx hb d_Md_lose_121 hl (k := 2) rfl rfl (by decide) rfl (fun ls hl => ?_)
          refine lv_goto (tgt := 45) hx hb d_Md_lose_124 (by decide) ?_
          exact ih_45 l1 (l2 + (1 : Int32)) r_120 _ _ ls hP hD hS (lv_sub hl [1, 2, 0] rfl) hf
      intro l1 l2 f H locs ls hP hD hS hl hf
      rw [f_Md_lose_45] at hf
      refine lv_iload_n hx hb d_Md_lose_45 rfl (lv_at hl 2 rfl) ?_
      refine lv_iload_n hx hb d_Md_lose_46 rfl (lv_at hl 1 rfl) ?_
      refine lv_icmp_gt (tgt := 127) hx hb d_Md_lose_47 (by decide) (fun c_47 => ?_) (fun c_47 => ?_)
      · replace hf := ob_et c_47 hf
        cases hf
        exact kV hx hb hr hlk hP hD hS d_Md_lose_127
      · replace hf := ob_ef c_47 hf
        refine lv_aload_n hx hb d_Md_lose_50 rfl (lv_at hl 0 rfl) ?_
        refine lv_iload_n hx hb d_Md_lose_51 rfl (lv_at hl 2 rfl) ?_
        obtain ⟨q_52, hc_52, hf⟩ := oc_e hf
        refine kcS (cc := c_Md_lose) (own := "FloodDiaryModel") (index := 43) (wc := ([] : va_W)) (wr := W_Row G 2400 a f) (wc' := ([] : va_W)) (ws' := W_Row G 2400 a f) hx hb hml hown hts hK hN hA hP hD hS (t_Md_at l G l2 q_52 hc_52) m_Md_at k_805 ⟨Nat.le_of_ble_eq_true rfl, Nat.le_of_ble_eq_true rfl⟩ (List.Perm.refl _) (List.Perm.refl _) rfl rfl (Nat.le_of_ble_eq_true rfl) hl.1 d_Md_lose_52 ⟨Nat.zero_le _, Nat.zero_le _⟩ (fun H locs hP hD hS => ?_)
        refine lv_iconst (v := (1 : Int32)) hx hb d_Md_lose_55 (by decide) ?_
        refine lv_iadd hx hb d_Md_lose_56 ?_
        obtain ⟨g_57, hf⟩ := og_e hf
        refine va_iald hx hb hK hP 0 0 rfl rfl g_57 d_Md_lose_57 ?_
        refine lv_istore_n (lv' := [(3, .int (f (q_52 + (1 : Int32)).toNatClampNeg)), (0, .ref a), (1, .int l1), (2, .int l2)]) hx hb d_Md_lose_58 rfl hl (by decide) rfl (fun ls hl => ?_)
        refine lv_aload_n hx hb d_Md_lose_59 rfl (lv_at hl 1 rfl) ?_
        refine lv_iload_n hx hb d_Md_lose_60 rfl (lv_at hl 3 rfl) ?_
        obtain ⟨q_61, hc_61, hf⟩ := oc_e hf
        refine kcS (cc := c_Md_lose) (own := "FloodDiaryModel") (index := 43) (wc := ([] : va_W)) (wr := W_Row G 2400 a f) (wc' := ([] : va_W)) (ws' := W_Row G 2400 a f) hx hb hml hown hts hK hN hA hP hD hS (t_Md_at l G l2 q_61 hc_61) m_Md_at k_805 ⟨Nat.le_of_ble_eq_true rfl, Nat.le_of_ble_eq_true rfl⟩ (List.Perm.refl _) (List.Perm.refl _) rfl rfl (Nat.le_of_ble_eq_true rfl) hl.1 d_Md_lose_61 ⟨Nat.zero_le _, Nat.zero_le _⟩ (fun H locs hP hD hS => ?_)
        refine lv_iconst (v := (0 : Int32)) hx hb d_Md_lose_64 (by decide) ?_
        refine lv_iadd hx hb d_Md_lose_65 ?_
        obtain ⟨g_66, hf⟩ := og_e hf
        refine va_iald hx hb hK hP 0 0 rfl rfl g_66 d_Md_lose_66 ?_
        refine lv_istore (lv' := [(4, .int (f (q_61 + (0 : Int32)).toNatClampNeg)), (3, .int (f (q_52 + (1 : Int32)).toNatClampNeg)), (0, .ref a), (1, .int l1), (2, .int l2)]) hx hb d_Md_lose_67 hl (by decide) rfl (fun ls hl => ?_)
        refine lv_iload hx hb d_Md_lose_69 (lv_at hl 0 rfl) ?_
        refine lv_if_ne (tgt := 92) hx hb d_Md_lose_71 (by decide) (fun c_71 => ?_) (fun c_71 => ?_)
        · replace hf := ob_ef c_71 hf
          refine lv_iload hx hb d_Md_lose_92 (lv_at hl 0 rfl) ?_
          refine lv_iconst (v := (3 : Int32)) hx hb d_Md_lose_94 (by decide) ?_
          refine lv_icmp_eq (tgt := 104) hx hb d_Md_lose_95 (by decide) (fun c_95 => ?_) (fun c_95 => ?_)
          · replace hf := ob_et c_95 hf
            exact J_104 l1 l2 (f (q_52 + (1 : Int32)).toNatClampNeg) (f (q_61 + (0 : Int32)).toNatClampNeg) f _ _ ls hP hD hS (lv_sub hl [2, 3, 4, 1, 0] rfl) hf
          · replace hf := ob_ef c_95 hf
            refine lv_iload hx hb d_Md_lose_98 (lv_at hl 0 rfl) ?_
            refine lv_iconst (v := (4 : Int32)) hx hb d_Md_lose_100 (by decide) ?_
            refine lv_icmp_ne (tgt := 121) hx hb d_Md_lose_101 (by decide) (fun c_101 => ?_) (fun c_101 => ?_)
            · replace hf := ob_ef c_101 hf
              refine lv_iinc (v := (l2 + (1 : Int32))) (lv' := [(2, .int (l2 + (1 : Int32))), (4, .int (f (q_61 + (0 : Int32)).toNatClampNeg)), (3, .int (f (q_52 + (1 : Int32)).toNatClampNeg)), (0, .ref a), (1, .int l1)]) hx hb d_Md_lose_121 hl (k := 4) rfl rfl (by decide) rfl (fun ls hl => ?_)
              refine lv_goto (tgt := 45) hx hb d_Md_lose_124 (by decide) ?_
              exact ih_45 l1 (l2 + (1 : Int32)) f _ _ ls hP hD hS (lv_sub hl [3, 4, 0] rfl) hf
            · replace hf := ob_et c_101 hf
              exact J_104 l1 l2 (f (q_52 + (1 : Int32)).toNatClampNeg) (f (q_61 + (0 : Int32)).toNatClampNeg) f _ _ ls hP hD hS (lv_sub hl [2, 3, 4, 1, 0] rfl) hf
        · replace hf := ob_et c_71 hf
          refine lv_aload_n hx hb d_Md_lose_74 rfl (lv_at hl 2 rfl) ?_
          refine lv_bipush (v := (56 : Int32)) hx hb d_Md_lose_75 (by decide) ?_
          refine lv_dup2_11 hx hb d_Md_lose_77 rfl rfl ?_
          obtain ⟨g_78, hf⟩ := og_e hf
          refine va_iald hx hb hK hP 0 0 rfl rfl g_78 d_Md_lose_78 ?_
          refine lv_iconst (v := (1 : Int32)) hx hb d_Md_lose_79 (by decide) ?_
          refine lv_iadd hx hb d_Md_lose_80 ?_
          obtain ⟨g_81, hf⟩ := og_e hf
          obtain ⟨r_81, er_81, hf⟩ := nx_e hf
          refine va_iast hx hb hK hP hD hS 0 0 rfl rfl g_81 d_Md_lose_81 (fun H locs hP hD hS => ?_)
          rw [← er_81] at hP hD
          have hP : va_P G.1 vwCl (W_Row G 2400 a r_81) H := hP
          have hD : va_D A (W_Row G 2400 a r_81) := hD
          refine lv_aload_n hx hb d_Md_lose_82 rfl (lv_at hl 2 rfl) ?_
          refine lv_bipush (v := (40 : Int32)) hx hb d_Md_lose_83 (by decide) ?_
          refine lv_iload_n hx hb d_Md_lose_85 rfl (lv_at hl 1 rfl) ?_
          refine lv_iadd hx hb d_Md_lose_86 ?_
          refine lv_iconst (v := (0 : Int32)) hx hb d_Md_lose_87 (by decide) ?_
          obtain ⟨g_88, hf⟩ := og_e hf
          obtain ⟨r_88, er_88, hf⟩ := nx_e hf
          refine va_iast hx hb hK hP hD hS 0 0 rfl rfl g_88 d_Md_lose_88 (fun H locs hP hD hS => ?_)
          rw [← er_88] at hP hD
          have hP : va_P G.1 vwCl (W_Row G 2400 a r_88) H := hP
          have hD : va_D A (W_Row G 2400 a r_88) := hD
          refine lv_goto (tgt := 121) hx hb d_Md_lose_89 (by decide) ?_
          refine lv_iinc (v := (l2 + (1 : Int32))) (lv' := [(2, .int (l2 + (1 : Int32))), (4, .int (f (q_61 + (0 : Int32)).toNatClampNeg)), (3, .int (f (q_52 + (1 : Int32)).toNatClampNeg)), (0, .ref a), (1, .int l1)]) hx hb d_Md_lose_121 hl (k := 4) rfl rfl (by decide) rfl (fun ls hl => ?_)
          refine lv_goto (tgt := 45) hx hb d_Md_lose_124 (by decide) ?_
          exact ih_45 l1 (l2 + (1 : Int32)) r_88 _ _ ls hP hD hS (lv_sub hl [3, 4, 0] rfl) hf
  unfold f_Md_lose at hf
  refine lv_aload_n hx hb d_Md_lose_0 rfl (lv_at hl 0 rfl) ?_
  refine lv_bipush (v := (65 : Int32)) hx hb d_Md_lose_1 (by decide) ?_
  refine lv_dup2_11 hx hb d_Md_lose_3 rfl rfl ?_
  obtain ⟨g_4, hf⟩ := og_e hf
  refine va_iald hx hb hK hP 0 0 rfl rfl g_4 d_Md_lose_4 ?_
  refine lv_aload_n hx hb d_Md_lose_5 rfl (lv_at hl 0 rfl) ?_
  refine lv_bipush (v := (57 : Int32)) hx hb d_Md_lose_6 (by decide) ?_
  obtain ⟨g_8, hf⟩ := og_e hf
  refine va_iald hx hb hK hP 0 0 rfl rfl g_8 d_Md_lose_8 ?_
  refine lv_iload_n hx hb d_Md_lose_9 rfl (lv_at hl 1 rfl) ?_
  refine lv_isub hx hb d_Md_lose_10 ?_
  refine lv_iadd hx hb d_Md_lose_11 ?_
  obtain ⟨g_12, hf⟩ := og_e hf
  obtain ⟨r_12, er_12, hf⟩ := nx_e hf
  refine va_iast hx hb hK hP hD hS 0 0 rfl rfl g_12 d_Md_lose_12 (fun H locs hP hD hS => ?_)
  rw [← er_12] at hP hD
  have hP : va_P G.1 vwCl (W_Row G 2400 a r_12) H := hP
  have hD : va_D A (W_Row G 2400 a r_12) := hD
  refine lv_aload_n hx hb d_Md_lose_13 rfl (lv_at hl 0 rfl) ?_
  refine lv_bipush (v := (57 : Int32)) hx hb d_Md_lose_14 (by decide) ?_
  refine lv_iload_n hx hb d_Md_lose_16 rfl (lv_at hl 1 rfl) ?_
  obtain ⟨g_17, hf⟩ := og_e hf
  obtain ⟨r_17, er_17, hf⟩ := nx_e hf
  refine va_iast hx hb hK hP hD hS 0 0 rfl rfl g_17 d_Md_lose_17 (fun H locs hP hD hS => ?_)
  rw [← er_17] at hP hD
  have hP : va_P G.1 vwCl (W_Row G 2400 a r_17) H := hP
  have hD : va_D A (W_Row G 2400 a r_17) := hD
  refine lv_aload_n hx hb d_Md_lose_18 rfl (lv_at hl 0 rfl) ?_
  refine lv_bipush (v := (58 : Int32)) hx hb d_Md_lose_19 (by decide) ?_
  refine lv_aload_n hx hb d_Md_lose_21 rfl (lv_at hl 0 rfl) ?_
  refine lv_bipush (v := (58 : Int32)) hx hb d_Md_lose_22 (by decide) ?_
  obtain ⟨g_24, hf⟩ := og_e hf
  refine va_iald hx hb hK hP 0 0 rfl rfl g_24 d_Md_lose_24 ?_
  refine lv_iload_n hx hb d_Md_lose_25 rfl (lv_at hl 1 rfl) ?_
  refine lv_icmp_ge (tgt := 36) hx hb d_Md_lose_26 (by decide) (fun c_26 => ?_) (fun c_26 => ?_)
  · replace hf := ob_et c_26 hf
    refine lv_iload_n hx hb d_Md_lose_36 rfl (lv_at hl 1 rfl) ?_
    obtain ⟨g_37, hf⟩ := og_e hf
    obtain ⟨r_37, er_37, hf⟩ := nx_e hf
    refine va_iast hx hb hK hP hD hS 0 0 rfl rfl g_37 d_Md_lose_37 (fun H locs hP hD hS => ?_)
    rw [← er_37] at hP hD
    have hP : va_P G.1 vwCl (W_Row G 2400 a r_37) H := hP
    have hD : va_D A (W_Row G 2400 a r_37) := hD
    refine lv_aload_n hx hb d_Md_lose_38 rfl (lv_at hl 0 rfl) ?_
    refine lv_bipush (v := (56 : Int32)) hx hb d_Md_lose_39 (by decide) ?_
    refine lv_iconst (v := (0 : Int32)) hx hb d_Md_lose_41 (by decide) ?_
    obtain ⟨g_42, hf⟩ := og_e hf
    obtain ⟨r_42, er_42, hf⟩ := nx_e hf
    refine va_iast hx hb hK hP hD hS 0 0 rfl rfl g_42 d_Md_lose_42 (fun H locs hP hD hS => ?_)
    rw [← er_42] at hP hD
    have hP : va_P G.1 vwCl (W_Row G 2400 a r_42) H := hP
    have hD : va_D A (W_Row G 2400 a r_42) := hD
    refine lv_iconst (v := (1 : Int32)) hx hb d_Md_lose_43 (by decide) ?_
    refine lv_istore_n (lv' := [(2, .int (1 : Int32)), (0, .ref a), (1, .int l1)]) hx hb d_Md_lose_44 rfl hl (by decide) rfl (fun ls hl => ?_)
    exact J_45 FU l1 (1 : Int32) r_42 _ _ ls hP hD hS (lv_sub hl [1, 2, 0] rfl) hf
  · replace hf := ob_ef c_26 hf
    refine lv_aload_n hx hb d_Md_lose_29 rfl (lv_at hl 0 rfl) ?_
    refine lv_bipush (v := (58 : Int32)) hx hb d_Md_lose_30 (by decide) ?_
    obtain ⟨g_32, hf⟩ := og_e hf
    refine va_iald hx hb hK hP 0 0 rfl rfl g_32 d_Md_lose_32 ?_
    refine lv_goto (tgt := 37) hx hb d_Md_lose_33 (by decide) ?_
    obtain ⟨g_37, hf⟩ := og_e hf
    obtain ⟨r_37, er_37, hf⟩ := nx_e hf
    refine va_iast hx hb hK hP hD hS 0 0 rfl rfl g_37 d_Md_lose_37 (fun H locs hP hD hS => ?_)
    rw [← er_37] at hP hD
    have hP : va_P G.1 vwCl (W_Row G 2400 a r_37) H := hP
    have hD : va_D A (W_Row G 2400 a r_37) := hD
    refine lv_aload_n hx hb d_Md_lose_38 rfl (lv_at hl 0 rfl) ?_
    refine lv_bipush (v := (56 : Int32)) hx hb d_Md_lose_39 (by decide) ?_
    refine lv_iconst (v := (0 : Int32)) hx hb d_Md_lose_41 (by decide) ?_
    obtain ⟨g_42, hf⟩ := og_e hf
    obtain ⟨r_42, er_42, hf⟩ := nx_e hf
    refine va_iast hx hb hK hP hD hS 0 0 rfl rfl g_42 d_Md_lose_42 (fun H locs hP hD hS => ?_)
    rw [← er_42] at hP hD
    have hP : va_P G.1 vwCl (W_Row G 2400 a r_42) H := hP
    have hD : va_D A (W_Row G 2400 a r_42) := hD
    refine lv_iconst (v := (1 : Int32)) hx hb d_Md_lose_43 (by decide) ?_
    refine lv_istore_n (lv' := [(2, .int (1 : Int32)), (0, .ref a), (1, .int l1)]) hx hb d_Md_lose_44 rfl hl (by decide) rfl (fun ls hl => ?_)
    exact J_45 FU l1 (1 : Int32) r_42 _ _ ls hP hD hS (lv_sub hl [1, 2, 0] rfl) hf
set_option maxHeartbeats 4000000 in
set_option maxRecDepth 100000 in
theorem t_Md_floodOn (l : Launch) (G : GG) (a : Nat) (f : (Nat → Int32)) (q : Int32 × (Nat → Int32)) (hf : f_Md_floodOn f = some q) : MI l G y_Md_floodOn c_Md_floodOn 3 (some .int) (rmk 2 44) (W_Row G 2400 a f) [.ref a] (W_Row G 2400 a q.2) (q.1) := by
  refine ofI "FloodDiaryModel" (by decide +kernel) rfl (Nat.le_of_ble_eq_true rfl) (fun p e s m args below meth c A ls hx hb hr hml hown hts hlk hK hN hA hP hD hS hl => ?_)
  have hl : lv_has ls 3 [(0, .ref a)] := hl
  have J_12 : ∀ (n_12 : Nat) (l1 : Int32) (l2 : Int32) (f : (Nat → Int32)) (H : Heap) (locs : List Loc) (ls : Array Slot), va_P G.1 vwCl (W_Row G 2400 a f) H → va_D A (W_Row G 2400 a f) → va_S A s.heap H locs → lv_has ls 3 [(0, .ref a), (1, .int l1), (2, .int l2)] → f_Md_floodOn_12 n_12 l1 l2 f = some q → W p l e (rmk 2 44) s m args below meth c H locs 0 0 (MQ below (qI G A (W_Row G 2400 a q.2) (q.1)) args s 0 0 A) (F0 m 12 ls []) := by
    intro n_12
    induction n_12 with
    | zero => intro l1 l2 f H locs ls hP hD hS hl hf; exact absurd hf (by unfold f_Md_floodOn_12; exact fun z => by cases z)
    | succ n_12 ih_12 =>
      intro l1 l2 f H locs ls hP hD hS hl hf
      rw [f_Md_floodOn_12] at hf
      refine lv_iload_n hx hb d_Md_floodOn_12 rfl (lv_at hl 2 rfl) ?_
      refine lv_bipush (v := (8 : Int32)) hx hb d_Md_floodOn_13 (by decide) ?_
      refine lv_icmp_ge (tgt := 31) hx hb d_Md_floodOn_15 (by decide) (fun c_15 => ?_) (fun c_15 => ?_)
      · replace hf := ob_et c_15 hf
        refine lv_aload_n hx hb d_Md_floodOn_31 rfl (lv_at hl 0 rfl) ?_
        refine lv_aload_n hx hb d_Md_floodOn_32 rfl (lv_at hl 0 rfl) ?_
        refine lv_bipush (v := (58 : Int32)) hx hb d_Md_floodOn_33 (by decide) ?_
        obtain ⟨g_35, hf⟩ := og_e hf
        refine va_iald hx hb hK hP 0 0 rfl rfl g_35 d_Md_floodOn_35 ?_
        obtain ⟨q_36, hc_36, hf⟩ := oc_e hf
        refine kcSv (cc := c_Md_floodOn) (own := "FloodDiaryModel") (index := 68) (wc := W_Row G 2400 a f) (wr := ([] : va_W)) (wc' := W_Row G 2400 a q_36) (ws' := W_Row G 2400 a q_36) hx hb hml hown hts hK hN hA hP hD hS (t_Md_lose l G a (f (58 : Int32).toNatClampNeg) f q_36 hc_36) m_Md_lose k_900 ⟨Nat.le_of_ble_eq_true rfl, Nat.le_of_ble_eq_true rfl⟩ (pm_0 (W_Row G 2400 a f)) (pm_0 (W_Row G 2400 a q_36)).symm rfl rfl (Nat.le_of_ble_eq_true rfl) hl.1 d_Md_floodOn_36 ⟨Nat.zero_le _, Nat.zero_le _⟩ (fun H locs hP hD hS => ?_)
        refine lv_aload_n hx hb d_Md_floodOn_39 rfl (lv_at hl 0 rfl) ?_
        refine lv_bipush (v := (59 : Int32)) hx hb d_Md_floodOn_40 (by decide) ?_
        refine lv_iconst (v := (1 : Int32)) hx hb d_Md_floodOn_42 (by decide) ?_
        obtain ⟨g_43, hf⟩ := og_e hf
        obtain ⟨r_43, er_43, hf⟩ := nx_e hf
        refine va_iast hx hb hK hP hD hS 0 0 rfl rfl g_43 d_Md_floodOn_43 (fun H locs hP hD hS => ?_)
        rw [← er_43] at hP hD
        have hP : va_P G.1 vwCl (W_Row G 2400 a r_43) H := hP
        have hD : va_D A (W_Row G 2400 a r_43) := hD
        refine lv_aload_n hx hb d_Md_floodOn_44 rfl (lv_at hl 0 rfl) ?_
        refine lv_bipush (v := (60 : Int32)) hx hb d_Md_floodOn_45 (by decide) ?_
        refine lv_iconst (v := (0 : Int32)) hx hb d_Md_floodOn_47 (by decide) ?_
        obtain ⟨g_48, hf⟩ := og_e hf
        obtain ⟨r_48, er_48, hf⟩ := nx_e hf
        refine va_iast hx hb hK hP hD hS 0 0 rfl rfl g_48 d_Md_floodOn_48 (fun H locs hP hD hS => ?_)
        rw [← er_48] at hP hD
        have hP : va_P G.1 vwCl (W_Row G 2400 a r_48) H := hP
        have hD : va_D A (W_Row G 2400 a r_48) := hD
        refine lv_aload_n hx hb d_Md_floodOn_49 rfl (lv_at hl 0 rfl) ?_
        refine lv_bipush (v := (63 : Int32)) hx hb d_Md_floodOn_50 (by decide) ?_
        refine lv_dup2_11 hx hb d_Md_floodOn_52 rfl rfl ?_
        obtain ⟨g_53, hf⟩ := og_e hf
        refine va_iald hx hb hK hP 0 0 rfl rfl g_53 d_Md_floodOn_53 ?_
        refine lv_iconst (v := (1 : Int32)) hx hb d_Md_floodOn_54 (by decide) ?_
        refine lv_iadd hx hb d_Md_floodOn_55 ?_
        obtain ⟨g_56, hf⟩ := og_e hf
        obtain ⟨r_56, er_56, hf⟩ := nx_e hf
        refine va_iast hx hb hK hP hD hS 0 0 rfl rfl g_56 d_Md_floodOn_56 (fun H locs hP hD hS => ?_)
        rw [← er_56] at hP hD
        have hP : va_P G.1 vwCl (W_Row G 2400 a r_56) H := hP
        have hD : va_D A (W_Row G 2400 a r_56) := hD
        refine lv_aload_n hx hb d_Md_floodOn_57 rfl (lv_at hl 0 rfl) ?_
        refine lv_bipush (v := (66 : Int32)) hx hb d_Md_floodOn_58 (by decide) ?_
        refine lv_iconst (v := (1 : Int32)) hx hb d_Md_floodOn_60 (by decide) ?_
        obtain ⟨g_61, hf⟩ := og_e hf
        obtain ⟨r_61, er_61, hf⟩ := nx_e hf
        refine va_iast hx hb hK hP hD hS 0 0 rfl rfl g_61 d_Md_floodOn_61 (fun H locs hP hD hS => ?_)
        rw [← er_61] at hP hD
        have hP : va_P G.1 vwCl (W_Row G 2400 a r_61) H := hP
        have hD : va_D A (W_Row G 2400 a r_61) := hD
        refine lv_iload_n hx hb d_Md_floodOn_62 rfl (lv_at hl 1 rfl) ?_
        cases hf
        exact kI hx hb hr hlk hP hD hS d_Md_floodOn_63
      · replace hf := ob_ef c_15 hf
        refine lv_aload_n hx hb d_Md_floodOn_18 rfl (lv_at hl 0 rfl) ?_
        refine lv_bipush (v := (16 : Int32)) hx hb d_Md_floodOn_19 (by decide) ?_
        refine lv_iload_n hx hb d_Md_floodOn_21 rfl (lv_at hl 2 rfl) ?_
        refine lv_iadd hx hb d_Md_floodOn_22 ?_
        refine lv_iconst (v := (0 : Int32)) hx hb d_Md_floodOn_23 (by decide) ?_
        obtain ⟨g_24, hf⟩ := og_e hf
        obtain ⟨r_24, er_24, hf⟩ := nx_e hf
        refine va_iast hx hb hK hP hD hS 0 0 rfl rfl g_24 d_Md_floodOn_24 (fun H locs hP hD hS => ?_)
        rw [← er_24] at hP hD
        have hP : va_P G.1 vwCl (W_Row G 2400 a r_24) H := hP
        have hD : va_D A (W_Row G 2400 a r_24) := hD
        refine lv_iinc (v := (l2 + (1 : Int32))) (lv' := [(2, .int (l2 + (1 : Int32))), (0, .ref a), (1, .int l1)]) hx hb d_Md_floodOn_25 hl (k := 2) rfl rfl (by decide) rfl (fun ls hl => ?_)
        refine lv_goto (tgt := 12) hx hb d_Md_floodOn_28 (by decide) ?_
        exact ih_12 l1 (l2 + (1 : Int32)) r_24 _ _ ls hP hD hS (lv_sub hl [1, 2, 0] rfl) hf
  unfold f_Md_floodOn at hf
  refine lv_aload_n hx hb d_Md_floodOn_0 rfl (lv_at hl 0 rfl) ?_
  refine lv_bipush (v := (57 : Int32)) hx hb d_Md_floodOn_1 (by decide) ?_
  obtain ⟨g_3, hf⟩ := og_e hf
  refine va_iald hx hb hK hP 0 0 rfl rfl g_3 d_Md_floodOn_3 ?_
  refine lv_aload_n hx hb d_Md_floodOn_4 rfl (lv_at hl 0 rfl) ?_
  refine lv_bipush (v := (58 : Int32)) hx hb d_Md_floodOn_5 (by decide) ?_
  obtain ⟨g_7, hf⟩ := og_e hf
  refine va_iald hx hb hK hP 0 0 rfl rfl g_7 d_Md_floodOn_7 ?_
  refine lv_isub hx hb d_Md_floodOn_8 ?_
  refine lv_istore_n (lv' := [(1, .int ((f (57 : Int32).toNatClampNeg) - (f (58 : Int32).toNatClampNeg))), (0, .ref a)]) hx hb d_Md_floodOn_9 rfl hl (by decide) rfl (fun ls hl => ?_)
  refine lv_iconst (v := (0 : Int32)) hx hb d_Md_floodOn_10 (by decide) ?_
  refine lv_istore_n (lv' := [(2, .int (0 : Int32)), (1, .int ((f (57 : Int32).toNatClampNeg) - (f (58 : Int32).toNatClampNeg))), (0, .ref a)]) hx hb d_Md_floodOn_11 rfl hl (by decide) rfl (fun ls hl => ?_)
  exact J_12 FU ((f (57 : Int32).toNatClampNeg) - (f (58 : Int32).toNatClampNeg)) (0 : Int32) f _ _ ls hP hD hS (lv_sub hl [2, 1, 0] rfl) hf
set_option maxHeartbeats 4000000 in
set_option maxRecDepth 100000 in
theorem t_Md_nextAgain (l : Launch) (G : GG) (a : Nat) (f : (Nat → Int32)) (q : Int32) (hf : f_Md_nextAgain f = some q) : MI l G y_Md_nextAgain c_Md_nextAgain 2 (some .int) (rmk 1 20) (W_Row G 2400 a f) [.ref a] (W_Row G 2400 a f) (q) := by
  refine ofI "FloodDiaryModel" (by decide +kernel) rfl (Nat.le_of_ble_eq_true rfl) (fun p e s m args below meth c A ls hx hb hr hml hown hts hlk hK hN hA hP hD hS hl => ?_)
  have hl : lv_has ls 2 [(0, .ref a)] := hl
  have J_7 : ∀ (n_7 : Nat) (l1 : Int32) (f : (Nat → Int32)) (H : Heap) (locs : List Loc) (ls : Array Slot), va_P G.1 vwCl (W_Row G 2400 a f) H → va_D A (W_Row G 2400 a f) → va_S A s.heap H locs → lv_has ls 2 [(0, .ref a), (1, .int l1)] → f_Md_nextAgain_7 n_7 l1 f = some q → W p l e (rmk 1 20) s m args below meth c H locs 0 0 (MQ below (qI G A (W_Row G 2400 a f) (q)) args s 0 0 A) (F0 m 7 ls []) := by
    intro n_7
    induction n_7 with
    | zero => intro l1 f H locs ls hP hD hS hl hf; exact absurd hf (by unfold f_Md_nextAgain_7; exact fun z => by cases z)
    | succ n_7 ih_7 =>
      intro l1 f H locs ls hP hD hS hl hf
      rw [f_Md_nextAgain_7] at hf
      refine lv_iload_n hx hb d_Md_nextAgain_7 rfl (lv_at hl 1 rfl) ?_
      refine lv_aload_n hx hb d_Md_nextAgain_8 rfl (lv_at hl 0 rfl) ?_
      refine lv_bipush (v := (61 : Int32)) hx hb d_Md_nextAgain_9 (by decide) ?_
      obtain ⟨g_11, hf⟩ := og_e hf
      refine va_iald hx hb hK hP 0 0 rfl rfl g_11 d_Md_nextAgain_11 ?_
      refine lv_icmp_gt (tgt := 47) hx hb d_Md_nextAgain_12 (by decide) (fun c_12 => ?_) (fun c_12 => ?_)
      · replace hf := ob_et c_12 hf
        refine lv_iconst (v := (0 : Int32)) hx hb d_Md_nextAgain_47 (by decide) ?_
        cases hf
        exact kI hx hb hr hlk hP hD hS d_Md_nextAgain_48
      · replace hf := ob_ef c_12 hf
        refine lv_aload_n hx hb d_Md_nextAgain_15 rfl (lv_at hl 0 rfl) ?_
        refine lv_iload_n hx hb d_Md_nextAgain_16 rfl (lv_at hl 1 rfl) ?_
        obtain ⟨q_17, hc_17, hf⟩ := oc_e hf
        refine kcS (cc := c_Md_nextAgain) (own := "FloodDiaryModel") (index := 43) (wc := ([] : va_W)) (wr := W_Row G 2400 a f) (wc' := ([] : va_W)) (ws' := W_Row G 2400 a f) hx hb hml hown hts hK hN hA hP hD hS (t_Md_at l G l1 q_17 hc_17) m_Md_at k_805 ⟨Nat.le_of_ble_eq_true rfl, Nat.le_of_ble_eq_true rfl⟩ (List.Perm.refl _) (List.Perm.refl _) rfl rfl (Nat.le_of_ble_eq_true rfl) hl.1 d_Md_nextAgain_17 ⟨Nat.zero_le _, Nat.zero_le _⟩ (fun H locs hP hD hS => ?_)
        refine lv_iconst (v := (0 : Int32)) hx hb d_Md_nextAgain_20 (by decide) ?_
        refine lv_iadd hx hb d_Md_nextAgain_21 ?_
        obtain ⟨g_22, hf⟩ := og_e hf
        refine va_iald hx hb hK hP 0 0 rfl rfl g_22 d_Md_nextAgain_22 ?_
        refine lv_iconst (v := (1 : Int32)) hx hb d_Md_nextAgain_23 (by decide) ?_
        refine lv_icmp_eq (tgt := 39) hx hb d_Md_nextAgain_24 (by decide) (fun c_24 => ?_) (fun c_24 => ?_)
        · replace hf := ob_et c_24 hf
          refine lv_iload_n hx hb d_Md_nextAgain_39 rfl (lv_at hl 1 rfl) ?_
          cases hf
          exact kI hx hb hr hlk hP hD hS d_Md_nextAgain_40
        · replace hf := ob_ef c_24 hf
          refine lv_aload_n hx hb d_Md_nextAgain_27 rfl (lv_at hl 0 rfl) ?_
          refine lv_iload_n hx hb d_Md_nextAgain_28 rfl (lv_at hl 1 rfl) ?_
          obtain ⟨q_29, hc_29, hf⟩ := oc_e hf
          refine kcS (cc := c_Md_nextAgain) (own := "FloodDiaryModel") (index := 43) (wc := ([] : va_W)) (wr := W_Row G 2400 a f) (wc' := ([] : va_W)) (ws' := W_Row G 2400 a f) hx hb hml hown hts hK hN hA hP hD hS (t_Md_at l G l1 q_29 hc_29) m_Md_at k_805 ⟨Nat.le_of_ble_eq_true rfl, Nat.le_of_ble_eq_true rfl⟩ (List.Perm.refl _) (List.Perm.refl _) rfl rfl (Nat.le_of_ble_eq_true rfl) hl.1 d_Md_nextAgain_29 ⟨Nat.zero_le _, Nat.zero_le _⟩ (fun H locs hP hD hS => ?_)
          refine lv_iconst (v := (0 : Int32)) hx hb d_Md_nextAgain_32 (by decide) ?_
          refine lv_iadd hx hb d_Md_nextAgain_33 ?_
          obtain ⟨g_34, hf⟩ := og_e hf
          refine va_iald hx hb hK hP 0 0 rfl rfl g_34 d_Md_nextAgain_34 ?_
          refine lv_iconst (v := (2 : Int32)) hx hb d_Md_nextAgain_35 (by decide) ?_
          refine lv_icmp_ne (tgt := 41) hx hb d_Md_nextAgain_36 (by decide) (fun c_36 => ?_) (fun c_36 => ?_)
          · replace hf := ob_ef c_36 hf
            refine lv_iinc (v := (l1 + (1 : Int32))) (lv' := [(1, .int (l1 + (1 : Int32))), (0, .ref a)]) hx hb d_Md_nextAgain_41 hl (k := 1) rfl rfl (by decide) rfl (fun ls hl => ?_)
            refine lv_goto (tgt := 7) hx hb d_Md_nextAgain_44 (by decide) ?_
            exact ih_7 (l1 + (1 : Int32)) f _ _ ls hP hD hS (lv_sub hl [1, 0] rfl) hf
          · replace hf := ob_et c_36 hf
            refine lv_iload_n hx hb d_Md_nextAgain_39 rfl (lv_at hl 1 rfl) ?_
            cases hf
            exact kI hx hb hr hlk hP hD hS d_Md_nextAgain_40
  unfold f_Md_nextAgain at hf
  refine lv_aload_n hx hb d_Md_nextAgain_0 rfl (lv_at hl 0 rfl) ?_
  refine lv_bipush (v := (62 : Int32)) hx hb d_Md_nextAgain_1 (by decide) ?_
  obtain ⟨g_3, hf⟩ := og_e hf
  refine va_iald hx hb hK hP 0 0 rfl rfl g_3 d_Md_nextAgain_3 ?_
  refine lv_iconst (v := (1 : Int32)) hx hb d_Md_nextAgain_4 (by decide) ?_
  refine lv_iadd hx hb d_Md_nextAgain_5 ?_
  refine lv_istore_n (lv' := [(1, .int ((f (62 : Int32).toNatClampNeg) + (1 : Int32))), (0, .ref a)]) hx hb d_Md_nextAgain_6 rfl hl (by decide) rfl (fun ls hl => ?_)
  exact J_7 FU ((f (62 : Int32).toNatClampNeg) + (1 : Int32)) f _ _ ls hP hD hS (lv_sub hl [1, 0] rfl) hf
set_option maxHeartbeats 4000000 in
set_option maxRecDepth 100000 in
theorem t_Md_nextBack (l : Launch) (G : GG) (a : Nat) (f : (Nat → Int32)) (q : Int32) (hf : f_Md_nextBack f = some q) : MI l G y_Md_nextBack c_Md_nextBack 3 (some .int) (rmk 3 64) (W_Row G 2400 a f) [.ref a] (W_Row G 2400 a f) (q) := by
  refine ofI "FloodDiaryModel" (by decide +kernel) rfl (Nat.le_of_ble_eq_true rfl) (fun p e s m args below meth c A ls hx hb hr hml hown hts hlk hK hN hA hP hD hS hl => ?_)
  have hl : lv_has ls 3 [(0, .ref a)] := hl
  have J_5 : ∀ (n_5 : Nat) (l1 : Int32) (l2 : Int32) (f : (Nat → Int32)) (H : Heap) (locs : List Loc) (ls : Array Slot), va_P G.1 vwCl (W_Row G 2400 a f) H → va_D A (W_Row G 2400 a f) → va_S A s.heap H locs → lv_has ls 3 [(0, .ref a), (1, .int l1), (2, .int l2)] → f_Md_nextBack_5 n_5 l1 l2 f = some q → W p l e (rmk 3 64) s m args below meth c H locs 0 0 (MQ below (qI G A (W_Row G 2400 a f) (q)) args s 0 0 A) (F0 m 5 ls []) := by
    intro n_5
    induction n_5 with
    | zero => intro l1 l2 f H locs ls hP hD hS hl hf; exact absurd hf (by unfold f_Md_nextBack_5; exact fun z => by cases z)
    | succ n_5 ih_5 =>
      intro l1 l2 f H locs ls hP hD hS hl hf
      rw [f_Md_nextBack_5] at hf
      refine lv_iload_n hx hb d_Md_nextBack_5 rfl (lv_at hl 2 rfl) ?_
      refine lv_aload_n hx hb d_Md_nextBack_6 rfl (lv_at hl 0 rfl) ?_
      refine lv_bipush (v := (56 : Int32)) hx hb d_Md_nextBack_7 (by decide) ?_
      obtain ⟨g_9, hf⟩ := og_e hf
      refine va_iald hx hb hK hP 0 0 rfl rfl g_9 d_Md_nextBack_9 ?_
      refine lv_icmp_ge (tgt := 53) hx hb d_Md_nextBack_10 (by decide) (fun c_10 => ?_) (fun c_10 => ?_)
      · replace hf := ob_et c_10 hf
        refine lv_iload_n hx hb d_Md_nextBack_53 rfl (lv_at hl 1 rfl) ?_
        cases hf
        exact kI hx hb hr hlk hP hD hS d_Md_nextBack_54
      · replace hf := ob_ef c_10 hf
        refine lv_aload_n hx hb d_Md_nextBack_13 rfl (lv_at hl 0 rfl) ?_
        refine lv_bipush (v := (40 : Int32)) hx hb d_Md_nextBack_14 (by decide) ?_
        refine lv_iload_n hx hb d_Md_nextBack_16 rfl (lv_at hl 2 rfl) ?_
        refine lv_iadd hx hb d_Md_nextBack_17 ?_
        obtain ⟨g_18, hf⟩ := og_e hf
        refine va_iald hx hb hK hP 0 0 rfl rfl g_18 d_Md_nextBack_18 ?_
        refine lv_if_ne (tgt := 45) hx hb d_Md_nextBack_19 (by decide) (fun c_19 => ?_) (fun c_19 => ?_)
        · replace hf := ob_ef c_19 hf
          refine lv_iload_n hx hb d_Md_nextBack_45 rfl (lv_at hl 1 rfl) ?_
          refine lv_istore_n (lv' := [(1, .int l1), (0, .ref a), (2, .int l2)]) hx hb d_Md_nextBack_46 rfl hl (by decide) rfl (fun ls hl => ?_)
          refine lv_iinc (v := (l2 + (1 : Int32))) (lv' := [(2, .int (l2 + (1 : Int32))), (1, .int l1), (0, .ref a)]) hx hb d_Md_nextBack_47 hl (k := 2) rfl rfl (by decide) rfl (fun ls hl => ?_)
          refine lv_goto (tgt := 5) hx hb d_Md_nextBack_50 (by decide) ?_
          exact ih_5 l1 (l2 + (1 : Int32)) f _ _ ls hP hD hS (lv_sub hl [2, 1, 0] rfl) hf
        · replace hf := ob_et c_19 hf
          refine lv_iload_n hx hb d_Md_nextBack_22 rfl (lv_at hl 1 rfl) ?_
          refine lv_bipush (v := (-6 : Int32)) hx hb d_Md_nextBack_23 (by decide) ?_
          refine lv_icmp_eq (tgt := 41) hx hb d_Md_nextBack_25 (by decide) (fun c_25 => ?_) (fun c_25 => ?_)
          · replace hf := ob_et c_25 hf
            refine lv_iload_n hx hb d_Md_nextBack_41 rfl (lv_at hl 2 rfl) ?_
            refine lv_goto (tgt := 46) hx hb d_Md_nextBack_42 (by decide) ?_
            refine lv_istore_n (lv' := [(1, .int l2), (0, .ref a), (2, .int l2)]) hx hb d_Md_nextBack_46 rfl hl (by decide) rfl (fun ls hl => ?_)
            refine lv_iinc (v := (l2 + (1 : Int32))) (lv' := [(2, .int (l2 + (1 : Int32))), (1, .int l2), (0, .ref a)]) hx hb d_Md_nextBack_47 hl (k := 2) rfl rfl (by decide) rfl (fun ls hl => ?_)
            refine lv_goto (tgt := 5) hx hb d_Md_nextBack_50 (by decide) ?_
            exact ih_5 l2 (l2 + (1 : Int32)) f _ _ ls hP hD hS (lv_sub hl [2, 1, 0] rfl) hf
          · replace hf := ob_ef c_25 hf
            refine lv_aload_n hx hb d_Md_nextBack_28 rfl (lv_at hl 0 rfl) ?_
            refine lv_iload_n hx hb d_Md_nextBack_29 rfl (lv_at hl 2 rfl) ?_
            obtain ⟨q_30, hc_30, hf⟩ := oc_e hf
            refine kcS (cc := c_Md_nextBack) (own := "FloodDiaryModel") (index := 54) (wc := W_Row G 2400 a f) (wr := ([] : va_W)) (wc' := W_Row G 2400 a f) (ws' := W_Row G 2400 a f) hx hb hml hown hts hK hN hA hP hD hS (t_Md_goesOnWith l G a l2 f q_30 hc_30) m_Md_goesOnWith k_873 ⟨Nat.le_of_ble_eq_true rfl, Nat.le_of_ble_eq_true rfl⟩ (pm_0 (W_Row G 2400 a f)) (pm_0 (W_Row G 2400 a f)).symm rfl rfl (Nat.le_of_ble_eq_true rfl) hl.1 d_Md_nextBack_30 ⟨Nat.zero_le _, Nat.zero_le _⟩ (fun H locs hP hD hS => ?_)
            refine lv_aload_n hx hb d_Md_nextBack_33 rfl (lv_at hl 0 rfl) ?_
            refine lv_iload_n hx hb d_Md_nextBack_34 rfl (lv_at hl 1 rfl) ?_
            obtain ⟨q_35, hc_35, hf⟩ := oc_e hf
            refine kcS (cc := c_Md_nextBack) (own := "FloodDiaryModel") (index := 54) (wc := W_Row G 2400 a f) (wr := ([] : va_W)) (wc' := W_Row G 2400 a f) (ws' := W_Row G 2400 a f) hx hb hml hown hts hK hN hA hP hD hS (t_Md_goesOnWith l G a l1 f q_35 hc_35) m_Md_goesOnWith k_873 ⟨Nat.le_of_ble_eq_true rfl, Nat.le_of_ble_eq_true rfl⟩ (pm_0 (W_Row G 2400 a f)) (pm_0 (W_Row G 2400 a f)).symm rfl rfl (Nat.le_of_ble_eq_true rfl) hl.1 d_Md_nextBack_35 ⟨Nat.zero_le _, Nat.zero_le _⟩ (fun H locs hP hD hS => ?_)
            refine lv_icmp_le (tgt := 45) hx hb d_Md_nextBack_38 (by decide) (fun c_38 => ?_) (fun c_38 => ?_)
            · replace hf := ob_et c_38 hf
              refine lv_iload_n hx hb d_Md_nextBack_45 rfl (lv_at hl 1 rfl) ?_
              refine lv_istore_n (lv' := [(1, .int l1), (0, .ref a), (2, .int l2)]) hx hb d_Md_nextBack_46 rfl hl (by decide) rfl (fun ls hl => ?_)
              refine lv_iinc (v := (l2 + (1 : Int32))) (lv' := [(2, .int (l2 + (1 : Int32))), (1, .int l1), (0, .ref a)]) hx hb d_Md_nextBack_47 hl (k := 2) rfl rfl (by decide) rfl (fun ls hl => ?_)
              refine lv_goto (tgt := 5) hx hb d_Md_nextBack_50 (by decide) ?_
              exact ih_5 l1 (l2 + (1 : Int32)) f _ _ ls hP hD hS (lv_sub hl [2, 1, 0] rfl) hf
            · replace hf := ob_ef c_38 hf
              refine lv_iload_n hx hb d_Md_nextBack_41 rfl (lv_at hl 2 rfl) ?_
              refine lv_goto (tgt := 46) hx hb d_Md_nextBack_42 (by decide) ?_
              refine lv_istore_n (lv' := [(1, .int l2), (0, .ref a), (2, .int l2)]) hx hb d_Md_nextBack_46 rfl hl (by decide) rfl (fun ls hl => ?_)
              refine lv_iinc (v := (l2 + (1 : Int32))) (lv' := [(2, .int (l2 + (1 : Int32))), (1, .int l2), (0, .ref a)]) hx hb d_Md_nextBack_47 hl (k := 2) rfl rfl (by decide) rfl (fun ls hl => ?_)
              refine lv_goto (tgt := 5) hx hb d_Md_nextBack_50 (by decide) ?_
              exact ih_5 l2 (l2 + (1 : Int32)) f _ _ ls hP hD hS (lv_sub hl [2, 1, 0] rfl) hf
  unfold f_Md_nextBack at hf
  refine lv_bipush (v := (-6 : Int32)) hx hb d_Md_nextBack_0 (by decide) ?_
  refine lv_istore_n (lv' := [(1, .int (-6 : Int32)), (0, .ref a)]) hx hb d_Md_nextBack_2 rfl hl (by decide) rfl (fun ls hl => ?_)
  refine lv_iconst (v := (0 : Int32)) hx hb d_Md_nextBack_3 (by decide) ?_
  refine lv_istore_n (lv' := [(2, .int (0 : Int32)), (1, .int (-6 : Int32)), (0, .ref a)]) hx hb d_Md_nextBack_4 rfl hl (by decide) rfl (fun ls hl => ?_)
  exact J_5 FU (-6 : Int32) (0 : Int32) f _ _ ls hP hD hS (lv_sub hl [2, 1, 0] rfl) hf
set_option maxHeartbeats 4000000 in
set_option maxRecDepth 100000 in
theorem t_Md_isLeft (l : Launch) (G : GG) (a : Nat) (f : (Nat → Int32)) (q : Int32) (hf : f_Md_isLeft f = some q) : MI l G y_Md_isLeft c_Md_isLeft 1 (some .boolean) (rmk 4 86) (W_Row G 2400 a f) [.ref a] (W_Row G 2400 a f) (q) := by
  refine ofI "FloodDiaryModel" (by decide +kernel) rfl (Nat.le_of_ble_eq_true rfl) (fun p e s m args below meth c A ls hx hb hr hml hown hts hlk hK hN hA hP hD hS hl => ?_)
  have hl : lv_has ls 1 [(0, .ref a)] := hl
  unfold f_Md_isLeft at hf
  refine lv_aload_n hx hb d_Md_isLeft_0 rfl (lv_at hl 0 rfl) ?_
  obtain ⟨q_1, hc_1, hf⟩ := oc_e hf
  refine kcS (cc := c_Md_isLeft) (own := "FloodDiaryModel") (index := 71) (wc := W_Row G 2400 a f) (wr := ([] : va_W)) (wc' := W_Row G 2400 a f) (ws' := W_Row G 2400 a f) hx hb hml hown hts hK hN hA hP hD hS (t_Md_nextAgain l G a f q_1 hc_1) m_Md_nextAgain k_918 ⟨Nat.le_of_ble_eq_true rfl, Nat.le_of_ble_eq_true rfl⟩ (pm_0 (W_Row G 2400 a f)) (pm_0 (W_Row G 2400 a f)).symm rfl rfl (Nat.le_of_ble_eq_true rfl) hl.1 d_Md_isLeft_1 ⟨Nat.zero_le _, Nat.zero_le _⟩ (fun H locs hP hD hS => ?_)
  refine lv_if_gt (tgt := 16) hx hb d_Md_isLeft_4 (by decide) (fun c_4 => ?_) (fun c_4 => ?_)
  · replace hf := ob_et c_4 hf
    refine lv_iconst (v := (1 : Int32)) hx hb d_Md_isLeft_16 (by decide) ?_
    refine lv_goto (tgt := 21) hx hb d_Md_isLeft_17 (by decide) ?_
    cases hf
    exact kZ hx hb hr hlk hP hD hS (Or.inr rfl) d_Md_isLeft_21
  · replace hf := ob_ef c_4 hf
    refine lv_aload_n hx hb d_Md_isLeft_7 rfl (lv_at hl 0 rfl) ?_
    obtain ⟨q_8, hc_8, hf⟩ := oc_e hf
    refine kcS (cc := c_Md_isLeft) (own := "FloodDiaryModel") (index := 75) (wc := W_Row G 2400 a f) (wr := ([] : va_W)) (wc' := W_Row G 2400 a f) (ws' := W_Row G 2400 a f) hx hb hml hown hts hK hN hA hP hD hS (t_Md_nextBack l G a f q_8 hc_8) m_Md_nextBack k_921 ⟨Nat.le_of_ble_eq_true rfl, Nat.le_of_ble_eq_true rfl⟩ (pm_0 (W_Row G 2400 a f)) (pm_0 (W_Row G 2400 a f)).symm rfl rfl (Nat.le_of_ble_eq_true rfl) hl.1 d_Md_isLeft_8 ⟨Nat.zero_le _, Nat.zero_le _⟩ (fun H locs hP hD hS => ?_)
    refine lv_bipush (v := (-6 : Int32)) hx hb d_Md_isLeft_11 (by decide) ?_
    refine lv_icmp_eq (tgt := 20) hx hb d_Md_isLeft_13 (by decide) (fun c_13 => ?_) (fun c_13 => ?_)
    · replace hf := ob_et c_13 hf
      refine lv_iconst (v := (0 : Int32)) hx hb d_Md_isLeft_20 (by decide) ?_
      cases hf
      exact kZ hx hb hr hlk hP hD hS (Or.inl rfl) d_Md_isLeft_21
    · replace hf := ob_ef c_13 hf
      refine lv_iconst (v := (1 : Int32)) hx hb d_Md_isLeft_16 (by decide) ?_
      refine lv_goto (tgt := 21) hx hb d_Md_isLeft_17 (by decide) ?_
      cases hf
      exact kZ hx hb hr hlk hP hD hS (Or.inr rfl) d_Md_isLeft_21
set_option maxHeartbeats 4000000 in
set_option maxRecDepth 100000 in
theorem t_Md_step (l : Launch) (G : GG) (a : Nat) (f : (Nat → Int32)) (q : (Nat → Int32)) (hf : f_Md_step f = some q) : MV l G y_Md_step c_Md_step 3 (rmk 4 95) (W_Row G 2400 a f) [.ref a] (W_Row G 2400 a q) := by
  refine ofV "FloodDiaryModel" (by decide +kernel) rfl (Nat.le_of_ble_eq_true rfl) (fun p e s m args below meth c A ls hx hb hr hml hown hts hlk hK hN hA hP hD hS hl => ?_)
  have hl : lv_has ls 3 [(0, .ref a)] := hl
  unfold f_Md_step at hf
  refine lv_aload_n hx hb d_Md_step_0 rfl (lv_at hl 0 rfl) ?_
  obtain ⟨q_1, hc_1, hf⟩ := oc_e hf
  refine kcS (cc := c_Md_step) (own := "FloodDiaryModel") (index := 71) (wc := W_Row G 2400 a f) (wr := ([] : va_W)) (wc' := W_Row G 2400 a f) (ws' := W_Row G 2400 a f) hx hb hml hown hts hK hN hA hP hD hS (t_Md_nextAgain l G a f q_1 hc_1) m_Md_nextAgain k_918 ⟨Nat.le_of_ble_eq_true rfl, Nat.le_of_ble_eq_true rfl⟩ (pm_0 (W_Row G 2400 a f)) (pm_0 (W_Row G 2400 a f)).symm rfl rfl (Nat.le_of_ble_eq_true rfl) hl.1 d_Md_step_1 ⟨Nat.zero_le _, Nat.zero_le _⟩ (fun H locs hP hD hS => ?_)
  refine lv_istore_n (lv' := [(1, .int q_1), (0, .ref a)]) hx hb d_Md_step_4 rfl hl (by decide) rfl (fun ls hl => ?_)
  refine lv_iload_n hx hb d_Md_step_5 rfl (lv_at hl 0 rfl) ?_
  refine lv_if_ne (tgt := 18) hx hb d_Md_step_6 (by decide) (fun c_6 => ?_) (fun c_6 => ?_)
  · replace hf := ob_ef c_6 hf
    refine lv_aload_n hx hb d_Md_step_18 rfl (lv_at hl 1 rfl) ?_
    refine lv_bipush (v := (62 : Int32)) hx hb d_Md_step_19 (by decide) ?_
    refine lv_iload_n hx hb d_Md_step_21 rfl (lv_at hl 0 rfl) ?_
    obtain ⟨g_22, hf⟩ := og_e hf
    obtain ⟨r_22, er_22, hf⟩ := nx_e hf
    refine va_iast hx hb hK hP hD hS 0 0 rfl rfl g_22 d_Md_step_22 (fun H locs hP hD hS => ?_)
    rw [← er_22] at hP hD
    have hP : va_P G.1 vwCl (W_Row G 2400 a r_22) H := hP
    have hD : va_D A (W_Row G 2400 a r_22) := hD
    refine lv_aload_n hx hb d_Md_step_23 rfl (lv_at hl 1 rfl) ?_
    refine lv_iload_n hx hb d_Md_step_24 rfl (lv_at hl 0 rfl) ?_
    obtain ⟨q_25, hc_25, hf⟩ := oc_e hf
    refine kcS (cc := c_Md_step) (own := "FloodDiaryModel") (index := 43) (wc := ([] : va_W)) (wr := W_Row G 2400 a r_22) (wc' := ([] : va_W)) (ws' := W_Row G 2400 a r_22) hx hb hml hown hts hK hN hA hP hD hS (t_Md_at l G q_1 q_25 hc_25) m_Md_at k_805 ⟨Nat.le_of_ble_eq_true rfl, Nat.le_of_ble_eq_true rfl⟩ (List.Perm.refl _) (List.Perm.refl _) rfl rfl (Nat.le_of_ble_eq_true rfl) hl.1 d_Md_step_25 ⟨Nat.zero_le _, Nat.zero_le _⟩ (fun H locs hP hD hS => ?_)
    refine lv_iconst (v := (3 : Int32)) hx hb d_Md_step_28 (by decide) ?_
    refine lv_iadd hx hb d_Md_step_29 ?_
    obtain ⟨g_30, hf⟩ := og_e hf
    refine va_iald hx hb hK hP 0 0 rfl rfl g_30 d_Md_step_30 ?_
    refine lv_istore_n (lv' := [(2, .int (r_22 (q_25 + (3 : Int32)).toNatClampNeg)), (1, .int q_1), (0, .ref a)]) hx hb d_Md_step_31 rfl hl (by decide) rfl (fun ls hl => ?_)
    refine lv_aload_n hx hb d_Md_step_32 rfl (lv_at hl 2 rfl) ?_
    refine lv_iload_n hx hb d_Md_step_33 rfl (lv_at hl 0 rfl) ?_
    obtain ⟨q_34, hc_34, hf⟩ := oc_e hf
    refine kcSv (cc := c_Md_step) (own := "FloodDiaryModel") (index := 39) (wc := W_Row G 2400 a r_22) (wr := ([] : va_W)) (wc' := W_Row G 2400 a q_34) (ws' := W_Row G 2400 a q_34) hx hb hml hown hts hK hN hA hP hD hS (t_Md_takeInHand l G a (r_22 (q_25 + (3 : Int32)).toNatClampNeg) r_22 q_34 hc_34) m_Md_takeInHand k_838 ⟨Nat.le_of_ble_eq_true rfl, Nat.le_of_ble_eq_true rfl⟩ (pm_0 (W_Row G 2400 a r_22)) (pm_0 (W_Row G 2400 a q_34)).symm rfl rfl (Nat.le_of_ble_eq_true rfl) hl.1 d_Md_step_34 ⟨Nat.zero_le _, Nat.zero_le _⟩ (fun H locs hP hD hS => ?_)
    refine lv_aload_n hx hb d_Md_step_37 rfl (lv_at hl 2 rfl) ?_
    refine lv_bipush (v := (32 : Int32)) hx hb d_Md_step_38 (by decide) ?_
    refine lv_iload_n hx hb d_Md_step_40 rfl (lv_at hl 0 rfl) ?_
    refine lv_iadd hx hb d_Md_step_41 ?_
    obtain ⟨g_42, hf⟩ := og_e hf
    refine va_iald hx hb hK hP 0 0 rfl rfl g_42 d_Md_step_42 ?_
    refine lv_iload_n hx hb d_Md_step_43 rfl (lv_at hl 1 rfl) ?_
    refine lv_icmp_ge (tgt := 61) hx hb d_Md_step_44 (by decide) (fun c_44 => ?_) (fun c_44 => ?_)
    · replace hf := ob_et c_44 hf
      cases hf
      exact kV hx hb hr hlk hP hD hS d_Md_step_61
    · replace hf := ob_ef c_44 hf
      refine lv_aload_n hx hb d_Md_step_47 rfl (lv_at hl 2 rfl) ?_
      refine lv_iload_n hx hb d_Md_step_48 rfl (lv_at hl 0 rfl) ?_
      refine lv_aload_n hx hb d_Md_step_49 rfl (lv_at hl 2 rfl) ?_
      refine lv_iload_n hx hb d_Md_step_50 rfl (lv_at hl 1 rfl) ?_
      obtain ⟨q_51, hc_51, hf⟩ := oc_e hf
      refine kcS (cc := c_Md_step) (own := "FloodDiaryModel") (index := 43) (wc := ([] : va_W)) (wr := W_Row G 2400 a q_34) (wc' := ([] : va_W)) (ws' := W_Row G 2400 a q_34) hx hb hml hown hts hK hN hA hP hD hS (t_Md_at l G q_1 q_51 hc_51) m_Md_at k_805 ⟨Nat.le_of_ble_eq_true rfl, Nat.le_of_ble_eq_true rfl⟩ (List.Perm.refl _) (List.Perm.refl _) rfl rfl (Nat.le_of_ble_eq_true rfl) hl.1 d_Md_step_51 ⟨Nat.zero_le _, Nat.zero_le _⟩ (fun H locs hP hD hS => ?_)
      refine lv_iconst (v := (5 : Int32)) hx hb d_Md_step_54 (by decide) ?_
      refine lv_iadd hx hb d_Md_step_55 ?_
      obtain ⟨g_56, hf⟩ := og_e hf
      refine va_iald hx hb hK hP 0 0 rfl rfl g_56 d_Md_step_56 ?_
      refine lv_iload_n hx hb d_Md_step_57 rfl (lv_at hl 1 rfl) ?_
      obtain ⟨q_58, hc_58, hf⟩ := oc_e hf
      refine kcSv (cc := c_Md_step) (own := "FloodDiaryModel") (index := 61) (wc := W_Row G 2400 a q_34) (wr := ([] : va_W)) (wc' := W_Row G 2400 a q_58) (ws' := W_Row G 2400 a q_58) hx hb hml hown hts hK hN hA hP hD hS (t_Md_change l G a (r_22 (q_25 + (3 : Int32)).toNatClampNeg) (q_34 (q_51 + (5 : Int32)).toNatClampNeg) q_1 q_34 q_58 hc_58) m_Md_change k_841 ⟨Nat.le_of_ble_eq_true rfl, Nat.le_of_ble_eq_true rfl⟩ (pm_0 (W_Row G 2400 a q_34)) (pm_0 (W_Row G 2400 a q_58)).symm rfl rfl (Nat.le_of_ble_eq_true rfl) hl.1 d_Md_step_58 ⟨Nat.zero_le _, Nat.zero_le _⟩ (fun H locs hP hD hS => ?_)
      cases hf
      exact kV hx hb hr hlk hP hD hS d_Md_step_61
  · replace hf := ob_et c_6 hf
    refine lv_aload_n hx hb d_Md_step_9 rfl (lv_at hl 1 rfl) ?_
    refine lv_aload_n hx hb d_Md_step_10 rfl (lv_at hl 1 rfl) ?_
    obtain ⟨q_11, hc_11, hf⟩ := oc_e hf
    refine kcS (cc := c_Md_step) (own := "FloodDiaryModel") (index := 75) (wc := W_Row G 2400 a f) (wr := ([] : va_W)) (wc' := W_Row G 2400 a f) (ws' := W_Row G 2400 a f) hx hb hml hown hts hK hN hA hP hD hS (t_Md_nextBack l G a f q_11 hc_11) m_Md_nextBack k_921 ⟨Nat.le_of_ble_eq_true rfl, Nat.le_of_ble_eq_true rfl⟩ (pm_0 (W_Row G 2400 a f)) (pm_0 (W_Row G 2400 a f)).symm rfl rfl (Nat.le_of_ble_eq_true rfl) hl.1 d_Md_step_11 ⟨Nat.zero_le _, Nat.zero_le _⟩ (fun H locs hP hD hS => ?_)
    obtain ⟨q_14, hc_14, hf⟩ := oc_e hf
    refine kcSv (cc := c_Md_step) (own := "FloodDiaryModel") (index := 65) (wc := W_Row G 2400 a f) (wr := ([] : va_W)) (wc' := W_Row G 2400 a q_14) (ws' := W_Row G 2400 a q_14) hx hb hml hown hts hK hN hA hP hD hS (t_Md_stepBack l G a q_11 f q_14 hc_14) m_Md_stepBack k_870 ⟨Nat.le_of_ble_eq_true rfl, Nat.le_of_ble_eq_true rfl⟩ (pm_0 (W_Row G 2400 a f)) (pm_0 (W_Row G 2400 a q_14)).symm rfl rfl (Nat.le_of_ble_eq_true rfl) hl.1 d_Md_step_14 ⟨Nat.zero_le _, Nat.zero_le _⟩ (fun H locs hP hD hS => ?_)
    cases hf
    exact kV hx hb hr hlk hP hD hS d_Md_step_17
set_option maxHeartbeats 4000000 in
set_option maxRecDepth 100000 in
theorem t_Md_mendOn (l : Launch) (G : GG) (a : Nat) (l1 : Int32) (f : (Nat → Int32)) (q : Int32 × (Nat → Int32)) (hf : f_Md_mendOn l1 f = some q) : MI l G y_Md_mendOn c_Md_mendOn 3 (some .int) (rmk 5 117) (W_Row G 2400 a f) [.ref a, .int l1] (W_Row G 2400 a q.2) (q.1) := by
  refine ofI "FloodDiaryModel" (by decide +kernel) rfl (Nat.le_of_ble_eq_true rfl) (fun p e s m args below meth c A ls hx hb hr hml hown hts hlk hK hN hA hP hD hS hl => ?_)
  have hl : lv_has ls 3 [(0, .ref a), (1, .int l1)] := hl
  have J_49 : ∀ (l2 : Int32) (f : (Nat → Int32)) (H : Heap) (locs : List Loc) (ls : Array Slot), va_P G.1 vwCl (W_Row G 2400 a f) H → va_D A (W_Row G 2400 a f) → va_S A s.heap H locs → lv_has ls 3 [(0, .ref a), (2, .int l2)] → f_Md_mendOn_49 l2 f = some q → W p l e (rmk 5 117) s m args below meth c H locs 0 0 (MQ below (qI G A (W_Row G 2400 a q.2) (q.1)) args s 0 0 A) (F0 m 49 ls []) := by
    intro l2 f H locs ls hP hD hS hl hf
    unfold f_Md_mendOn_49 at hf
    refine lv_aload_n hx hb d_Md_mendOn_49 rfl (lv_at hl 0 rfl) ?_
    refine lv_bipush (v := (64 : Int32)) hx hb d_Md_mendOn_50 (by decide) ?_
    refine lv_dup2_11 hx hb d_Md_mendOn_52 rfl rfl ?_
    obtain ⟨g_53, hf⟩ := og_e hf
    refine va_iald hx hb hK hP 0 0 rfl rfl g_53 d_Md_mendOn_53 ?_
    refine lv_iload_n hx hb d_Md_mendOn_54 rfl (lv_at hl 1 rfl) ?_
    refine lv_iadd hx hb d_Md_mendOn_55 ?_
    obtain ⟨g_56, hf⟩ := og_e hf
    obtain ⟨r_56, er_56, hf⟩ := nx_e hf
    refine va_iast hx hb hK hP hD hS 0 0 rfl rfl g_56 d_Md_mendOn_56 (fun H locs hP hD hS => ?_)
    rw [← er_56] at hP hD
    have hP : va_P G.1 vwCl (W_Row G 2400 a r_56) H := hP
    have hD : va_D A (W_Row G 2400 a r_56) := hD
    refine lv_aload_n hx hb d_Md_mendOn_57 rfl (lv_at hl 0 rfl) ?_
    obtain ⟨q_58, hc_58, hf⟩ := oc_e hf
    refine kcS (cc := c_Md_mendOn) (own := "FloodDiaryModel") (index := 78) (wc := W_Row G 2400 a r_56) (wr := ([] : va_W)) (wc' := W_Row G 2400 a r_56) (ws' := W_Row G 2400 a r_56) hx hb hml hown hts hK hN hA hP hD hS (t_Md_isLeft l G a r_56 q_58 hc_58) m_Md_isLeft k_915 ⟨Nat.le_of_ble_eq_true rfl, Nat.le_of_ble_eq_true rfl⟩ (pm_0 (W_Row G 2400 a r_56)) (pm_0 (W_Row G 2400 a r_56)).symm rfl rfl (Nat.le_of_ble_eq_true rfl) hl.1 d_Md_mendOn_58 ⟨Nat.zero_le _, Nat.zero_le _⟩ (fun H locs hP hD hS => ?_)
    refine lv_if_ne (tgt := 77) hx hb d_Md_mendOn_61 (by decide) (fun c_61 => ?_) (fun c_61 => ?_)
    · replace hf := ob_ef c_61 hf
      refine lv_iload_n hx hb d_Md_mendOn_77 rfl (lv_at hl 1 rfl) ?_
      cases hf
      exact kI hx hb hr hlk hP hD hS d_Md_mendOn_78
    · replace hf := ob_et c_61 hf
      refine lv_aload_n hx hb d_Md_mendOn_64 rfl (lv_at hl 0 rfl) ?_
      refine lv_bipush (v := (59 : Int32)) hx hb d_Md_mendOn_65 (by decide) ?_
      refine lv_iconst (v := (0 : Int32)) hx hb d_Md_mendOn_67 (by decide) ?_
      obtain ⟨g_68, hf⟩ := og_e hf
      obtain ⟨r_68, er_68, hf⟩ := nx_e hf
      refine va_iast hx hb hK hP hD hS 0 0 rfl rfl g_68 d_Md_mendOn_68 (fun H locs hP hD hS => ?_)
      rw [← er_68] at hP hD
      have hP : va_P G.1 vwCl (W_Row G 2400 a r_68) H := hP
      have hD : va_D A (W_Row G 2400 a r_68) := hD
      refine lv_aload_n hx hb d_Md_mendOn_69 rfl (lv_at hl 0 rfl) ?_
      refine lv_bipush (v := (58 : Int32)) hx hb d_Md_mendOn_70 (by decide) ?_
      refine lv_aload_n hx hb d_Md_mendOn_72 rfl (lv_at hl 0 rfl) ?_
      refine lv_bipush (v := (57 : Int32)) hx hb d_Md_mendOn_73 (by decide) ?_
      obtain ⟨g_75, hf⟩ := og_e hf
      refine va_iald hx hb hK hP 0 0 rfl rfl g_75 d_Md_mendOn_75 ?_
      obtain ⟨g_76, hf⟩ := og_e hf
      obtain ⟨r_76, er_76, hf⟩ := nx_e hf
      refine va_iast hx hb hK hP hD hS 0 0 rfl rfl g_76 d_Md_mendOn_76 (fun H locs hP hD hS => ?_)
      rw [← er_76] at hP hD
      have hP : va_P G.1 vwCl (W_Row G 2400 a r_76) H := hP
      have hD : va_D A (W_Row G 2400 a r_76) := hD
      refine lv_iload_n hx hb d_Md_mendOn_77 rfl (lv_at hl 1 rfl) ?_
      cases hf
      exact kI hx hb hr hlk hP hD hS d_Md_mendOn_78
  have J_27 : ∀ (n_27 : Nat) (l1 : Int32) (l2 : Int32) (f : (Nat → Int32)) (H : Heap) (locs : List Loc) (ls : Array Slot), va_P G.1 vwCl (W_Row G 2400 a f) H → va_D A (W_Row G 2400 a f) → va_S A s.heap H locs → lv_has ls 3 [(0, .ref a), (1, .int l1), (2, .int l2)] → f_Md_mendOn_27 n_27 l1 l2 f = some q → W p l e (rmk 5 117) s m args below meth c H locs 0 0 (MQ below (qI G A (W_Row G 2400 a q.2) (q.1)) args s 0 0 A) (F0 m 27 ls []) := by
    intro n_27
    induction n_27 with
    | zero => intro l1 l2 f H locs ls hP hD hS hl hf; exact absurd hf (by unfold f_Md_mendOn_27; exact fun z => by cases z)
    | succ n_27 ih_27 =>
      intro l1 l2 f H locs ls hP hD hS hl hf
      rw [f_Md_mendOn_27] at hf
      refine lv_iload_n hx hb d_Md_mendOn_27 rfl (lv_at hl 2 rfl) ?_
      refine lv_iload_n hx hb d_Md_mendOn_28 rfl (lv_at hl 1 rfl) ?_
      refine lv_icmp_ge (tgt := 49) hx hb d_Md_mendOn_29 (by decide) (fun c_29 => ?_) (fun c_29 => ?_)
      · replace hf := ob_et c_29 hf
        exact J_49 l2 f _ _ ls hP hD hS (lv_sub hl [0, 2] rfl) hf
      · replace hf := ob_ef c_29 hf
        refine lv_aload_n hx hb d_Md_mendOn_32 rfl (lv_at hl 0 rfl) ?_
        obtain ⟨q_33, hc_33, hf⟩ := oc_e hf
        refine kcS (cc := c_Md_mendOn) (own := "FloodDiaryModel") (index := 78) (wc := W_Row G 2400 a f) (wr := ([] : va_W)) (wc' := W_Row G 2400 a f) (ws' := W_Row G 2400 a f) hx hb hml hown hts hK hN hA hP hD hS (t_Md_isLeft l G a f q_33 hc_33) m_Md_isLeft k_915 ⟨Nat.le_of_ble_eq_true rfl, Nat.le_of_ble_eq_true rfl⟩ (pm_0 (W_Row G 2400 a f)) (pm_0 (W_Row G 2400 a f)).symm rfl rfl (Nat.le_of_ble_eq_true rfl) hl.1 d_Md_mendOn_33 ⟨Nat.zero_le _, Nat.zero_le _⟩ (fun H locs hP hD hS => ?_)
        refine lv_if_eq (tgt := 49) hx hb d_Md_mendOn_36 (by decide) (fun c_36 => ?_) (fun c_36 => ?_)
        · replace hf := ob_et c_36 hf
          exact J_49 l2 f _ _ ls hP hD hS (lv_sub hl [0, 2] rfl) hf
        · replace hf := ob_ef c_36 hf
          refine lv_aload_n hx hb d_Md_mendOn_39 rfl (lv_at hl 0 rfl) ?_
          obtain ⟨q_40, hc_40, hf⟩ := oc_e hf
          refine kcSv (cc := c_Md_mendOn) (own := "FloodDiaryModel") (index := 82) (wc := W_Row G 2400 a f) (wr := ([] : va_W)) (wc' := W_Row G 2400 a q_40) (ws' := W_Row G 2400 a q_40) hx hb hml hown hts hK hN hA hP hD hS (t_Md_step l G a f q_40 hc_40) m_Md_step k_924 ⟨Nat.le_of_ble_eq_true rfl, Nat.le_of_ble_eq_true rfl⟩ (pm_0 (W_Row G 2400 a f)) (pm_0 (W_Row G 2400 a q_40)).symm rfl rfl (Nat.le_of_ble_eq_true rfl) hl.1 d_Md_mendOn_40 ⟨Nat.zero_le _, Nat.zero_le _⟩ (fun H locs hP hD hS => ?_)
          refine lv_iinc (v := (l2 + (1 : Int32))) (lv' := [(2, .int (l2 + (1 : Int32))), (0, .ref a), (1, .int l1)]) hx hb d_Md_mendOn_43 hl (k := 2) rfl rfl (by decide) rfl (fun ls hl => ?_)
          refine lv_goto (tgt := 27) hx hb d_Md_mendOn_46 (by decide) ?_
          exact ih_27 l1 (l2 + (1 : Int32)) q_40 _ _ ls hP hD hS (lv_sub hl [1, 2, 0] rfl) hf
  unfold f_Md_mendOn at hf
  refine lv_aload_n hx hb d_Md_mendOn_0 rfl (lv_at hl 0 rfl) ?_
  refine lv_bipush (v := (60 : Int32)) hx hb d_Md_mendOn_1 (by decide) ?_
  obtain ⟨g_3, hf⟩ := og_e hf
  refine va_iald hx hb hK hP 0 0 rfl rfl g_3 d_Md_mendOn_3 ?_
  refine lv_if_ne (tgt := 25) hx hb d_Md_mendOn_4 (by decide) (fun c_4 => ?_) (fun c_4 => ?_)
  · replace hf := ob_ef c_4 hf
    refine lv_iconst (v := (0 : Int32)) hx hb d_Md_mendOn_25 (by decide) ?_
    refine lv_istore_n (lv' := [(2, .int (0 : Int32)), (0, .ref a), (1, .int l1)]) hx hb d_Md_mendOn_26 rfl hl (by decide) rfl (fun ls hl => ?_)
    exact J_27 FU l1 (0 : Int32) f _ _ ls hP hD hS (lv_sub hl [1, 2, 0] rfl) hf
  · replace hf := ob_et c_4 hf
    refine lv_aload_n hx hb d_Md_mendOn_7 rfl (lv_at hl 0 rfl) ?_
    refine lv_bipush (v := (60 : Int32)) hx hb d_Md_mendOn_8 (by decide) ?_
    refine lv_iconst (v := (1 : Int32)) hx hb d_Md_mendOn_10 (by decide) ?_
    obtain ⟨g_11, hf⟩ := og_e hf
    obtain ⟨r_11, er_11, hf⟩ := nx_e hf
    refine va_iast hx hb hK hP hD hS 0 0 rfl rfl g_11 d_Md_mendOn_11 (fun H locs hP hD hS => ?_)
    rw [← er_11] at hP hD
    have hP : va_P G.1 vwCl (W_Row G 2400 a r_11) H := hP
    have hD : va_D A (W_Row G 2400 a r_11) := hD
    refine lv_aload_n hx hb d_Md_mendOn_12 rfl (lv_at hl 0 rfl) ?_
    refine lv_bipush (v := (61 : Int32)) hx hb d_Md_mendOn_13 (by decide) ?_
    refine lv_aload_n hx hb d_Md_mendOn_15 rfl (lv_at hl 0 rfl) ?_
    refine lv_bipush (v := (57 : Int32)) hx hb d_Md_mendOn_16 (by decide) ?_
    obtain ⟨g_18, hf⟩ := og_e hf
    refine va_iald hx hb hK hP 0 0 rfl rfl g_18 d_Md_mendOn_18 ?_
    obtain ⟨g_19, hf⟩ := og_e hf
    obtain ⟨r_19, er_19, hf⟩ := nx_e hf
    refine va_iast hx hb hK hP hD hS 0 0 rfl rfl g_19 d_Md_mendOn_19 (fun H locs hP hD hS => ?_)
    rw [← er_19] at hP hD
    have hP : va_P G.1 vwCl (W_Row G 2400 a r_19) H := hP
    have hD : va_D A (W_Row G 2400 a r_19) := hD
    refine lv_aload_n hx hb d_Md_mendOn_20 rfl (lv_at hl 0 rfl) ?_
    refine lv_bipush (v := (62 : Int32)) hx hb d_Md_mendOn_21 (by decide) ?_
    refine lv_iconst (v := (0 : Int32)) hx hb d_Md_mendOn_23 (by decide) ?_
    obtain ⟨g_24, hf⟩ := og_e hf
    obtain ⟨r_24, er_24, hf⟩ := nx_e hf
    refine va_iast hx hb hK hP hD hS 0 0 rfl rfl g_24 d_Md_mendOn_24 (fun H locs hP hD hS => ?_)
    rw [← er_24] at hP hD
    have hP : va_P G.1 vwCl (W_Row G 2400 a r_24) H := hP
    have hD : va_D A (W_Row G 2400 a r_24) := hD
    refine lv_iconst (v := (0 : Int32)) hx hb d_Md_mendOn_25 (by decide) ?_
    refine lv_istore_n (lv' := [(2, .int (0 : Int32)), (0, .ref a), (1, .int l1)]) hx hb d_Md_mendOn_26 rfl hl (by decide) rfl (fun ls hl => ?_)
    exact J_27 FU l1 (0 : Int32) r_24 _ _ ls hP hD hS (lv_sub hl [1, 2, 0] rfl) hf
set_option maxHeartbeats 4000000 in
set_option maxRecDepth 100000 in
theorem t_Md_whyNotBegin (l : Launch) (G : GG) (a : Nat) (f : (Nat → Int32)) (q : Int32) (hf : f_Md_whyNotBegin f = some q) : MI l G y_Md_whyNotBegin c_Md_whyNotBegin 1 (some .int) (rmk 0 0) (W_Row G 2400 a f) [.ref a] (W_Row G 2400 a f) (q) := by
  refine ofI "FloodDiaryModel" (by decide +kernel) rfl (Nat.le_of_ble_eq_true rfl) (fun p e s m args below meth c A ls hx hb hr hml hown hts hlk hK hN hA hP hD hS hl => ?_)
  have hl : lv_has ls 1 [(0, .ref a)] := hl
  unfold f_Md_whyNotBegin at hf
  refine lv_aload_n hx hb d_Md_whyNotBegin_0 rfl (lv_at hl 0 rfl) ?_
  refine lv_bipush (v := (56 : Int32)) hx hb d_Md_whyNotBegin_1 (by decide) ?_
  obtain ⟨g_3, hf⟩ := og_e hf
  refine va_iald hx hb hK hP 0 0 rfl rfl g_3 d_Md_whyNotBegin_3 ?_
  refine lv_bipush (v := (16 : Int32)) hx hb d_Md_whyNotBegin_4 (by decide) ?_
  refine lv_icmp_eq (tgt := 19) hx hb d_Md_whyNotBegin_6 (by decide) (fun c_6 => ?_) (fun c_6 => ?_)
  · replace hf := ob_et c_6 hf
    refine lv_bipush (v := (-4 : Int32)) hx hb d_Md_whyNotBegin_19 (by decide) ?_
    refine lv_goto (tgt := 38) hx hb d_Md_whyNotBegin_21 (by decide) ?_
    cases hf
    exact kI hx hb hr hlk hP hD hS d_Md_whyNotBegin_38
  · replace hf := ob_ef c_6 hf
    refine lv_aload_n hx hb d_Md_whyNotBegin_9 rfl (lv_at hl 0 rfl) ?_
    refine lv_bipush (v := (57 : Int32)) hx hb d_Md_whyNotBegin_10 (by decide) ?_
    obtain ⟨g_12, hf⟩ := og_e hf
    refine va_iald hx hb hK hP 0 0 rfl rfl g_12 d_Md_whyNotBegin_12 ?_
    refine lv_sipush (v := (150 : Int32)) hx hb d_Md_whyNotBegin_13 (by decide) ?_
    refine lv_icmp_lt (tgt := 24) hx hb d_Md_whyNotBegin_16 (by decide) (fun c_16 => ?_) (fun c_16 => ?_)
    · replace hf := ob_et c_16 hf
      refine lv_aload_n hx hb d_Md_whyNotBegin_24 rfl (lv_at hl 0 rfl) ?_
      refine lv_bipush (v := (59 : Int32)) hx hb d_Md_whyNotBegin_25 (by decide) ?_
      obtain ⟨g_27, hf⟩ := og_e hf
      refine va_iald hx hb hK hP 0 0 rfl rfl g_27 d_Md_whyNotBegin_27 ?_
      refine lv_iconst (v := (1 : Int32)) hx hb d_Md_whyNotBegin_28 (by decide) ?_
      refine lv_icmp_ne (tgt := 37) hx hb d_Md_whyNotBegin_29 (by decide) (fun c_29 => ?_) (fun c_29 => ?_)
      · replace hf := ob_ef c_29 hf
        refine lv_iconst (v := (0 : Int32)) hx hb d_Md_whyNotBegin_37 (by decide) ?_
        cases hf
        exact kI hx hb hr hlk hP hD hS d_Md_whyNotBegin_38
      · replace hf := ob_et c_29 hf
        refine lv_bipush (v := (-5 : Int32)) hx hb d_Md_whyNotBegin_32 (by decide) ?_
        refine lv_goto (tgt := 38) hx hb d_Md_whyNotBegin_34 (by decide) ?_
        cases hf
        exact kI hx hb hr hlk hP hD hS d_Md_whyNotBegin_38
    · replace hf := ob_ef c_16 hf
      refine lv_bipush (v := (-4 : Int32)) hx hb d_Md_whyNotBegin_19 (by decide) ?_
      refine lv_goto (tgt := 38) hx hb d_Md_whyNotBegin_21 (by decide) ?_
      cases hf
      exact kI hx hb hr hlk hP hD hS d_Md_whyNotBegin_38
set_option maxHeartbeats 4000000 in
set_option maxRecDepth 100000 in
theorem t_Md_beginOn (l : Launch) (G : GG) (a : Nat) (f : (Nat → Int32)) (q : Int32 × (Nat → Int32)) (hf : f_Md_beginOn f = some q) : MI l G y_Md_beginOn c_Md_beginOn 2 (some .int) (rmk 3 70) (W_Row G 2400 a f) [.ref a] (W_Row G 2400 a q.2) (q.1) := by
  refine ofI "FloodDiaryModel" (by decide +kernel) rfl (Nat.le_of_ble_eq_true rfl) (fun p e s m args below meth c A ls hx hb hr hml hown hts hlk hK hN hA hP hD hS hl => ?_)
  have hl : lv_has ls 2 [(0, .ref a)] := hl
  unfold f_Md_beginOn at hf
  refine lv_aload_n hx hb d_Md_beginOn_0 rfl (lv_at hl 0 rfl) ?_
  refine lv_bipush (v := (56 : Int32)) hx hb d_Md_beginOn_1 (by decide) ?_
  obtain ⟨g_3, hf⟩ := og_e hf
  refine va_iald hx hb hK hP 0 0 rfl rfl g_3 d_Md_beginOn_3 ?_
  refine lv_istore_n (lv' := [(1, .int (f (56 : Int32).toNatClampNeg)), (0, .ref a)]) hx hb d_Md_beginOn_4 rfl hl (by decide) rfl (fun ls hl => ?_)
  refine lv_aload_n hx hb d_Md_beginOn_5 rfl (lv_at hl 1 rfl) ?_
  refine lv_bipush (v := (40 : Int32)) hx hb d_Md_beginOn_6 (by decide) ?_
  refine lv_iload_n hx hb d_Md_beginOn_8 rfl (lv_at hl 0 rfl) ?_
  refine lv_iadd hx hb d_Md_beginOn_9 ?_
  refine lv_iconst (v := (0 : Int32)) hx hb d_Md_beginOn_10 (by decide) ?_
  obtain ⟨g_11, hf⟩ := og_e hf
  obtain ⟨r_11, er_11, hf⟩ := nx_e hf
  refine va_iast hx hb hK hP hD hS 0 0 rfl rfl g_11 d_Md_beginOn_11 (fun H locs hP hD hS => ?_)
  rw [← er_11] at hP hD
  have hP : va_P G.1 vwCl (W_Row G 2400 a r_11) H := hP
  have hD : va_D A (W_Row G 2400 a r_11) := hD
  refine lv_aload_n hx hb d_Md_beginOn_12 rfl (lv_at hl 1 rfl) ?_
  refine lv_bipush (v := (56 : Int32)) hx hb d_Md_beginOn_13 (by decide) ?_
  refine lv_dup2_11 hx hb d_Md_beginOn_15 rfl rfl ?_
  obtain ⟨g_16, hf⟩ := og_e hf
  refine va_iald hx hb hK hP 0 0 rfl rfl g_16 d_Md_beginOn_16 ?_
  refine lv_iconst (v := (1 : Int32)) hx hb d_Md_beginOn_17 (by decide) ?_
  refine lv_iadd hx hb d_Md_beginOn_18 ?_
  obtain ⟨g_19, hf⟩ := og_e hf
  obtain ⟨r_19, er_19, hf⟩ := nx_e hf
  refine va_iast hx hb hK hP hD hS 0 0 rfl rfl g_19 d_Md_beginOn_19 (fun H locs hP hD hS => ?_)
  rw [← er_19] at hP hD
  have hP : va_P G.1 vwCl (W_Row G 2400 a r_19) H := hP
  have hD : va_D A (W_Row G 2400 a r_19) := hD
  refine lv_aload_n hx hb d_Md_beginOn_20 rfl (lv_at hl 1 rfl) ?_
  refine lv_iconst (v := (0 : Int32)) hx hb d_Md_beginOn_21 (by decide) ?_
  refine lv_iload_n hx hb d_Md_beginOn_22 rfl (lv_at hl 0 rfl) ?_
  refine lv_bipush (v := (-6 : Int32)) hx hb d_Md_beginOn_23 (by decide) ?_
  refine lv_bipush (v := (-6 : Int32)) hx hb d_Md_beginOn_25 (by decide) ?_
  refine lv_bipush (v := (-6 : Int32)) hx hb d_Md_beginOn_27 (by decide) ?_
  refine lv_bipush (v := (-6 : Int32)) hx hb d_Md_beginOn_29 (by decide) ?_
  obtain ⟨q_31, hc_31, hf⟩ := oc_e hf
  refine kcS (cc := c_Md_beginOn) (own := "FloodDiaryModel") (index := 57) (wc := W_Row G 2400 a r_19) (wr := ([] : va_W)) (wc' := W_Row G 2400 a q_31.2) (ws' := W_Row G 2400 a q_31.2) hx hb hml hown hts hK hN hA hP hD hS (t_Md_enter l G a (0 : Int32) (f (56 : Int32).toNatClampNeg) (-6 : Int32) (-6 : Int32) (-6 : Int32) (-6 : Int32) r_19 q_31 hc_31) m_Md_enter k_799 ⟨Nat.le_of_ble_eq_true rfl, Nat.le_of_ble_eq_true rfl⟩ (pm_0 (W_Row G 2400 a r_19)) (pm_0 (W_Row G 2400 a q_31.2)).symm rfl rfl (Nat.le_of_ble_eq_true rfl) hl.1 d_Md_beginOn_31 ⟨Nat.zero_le _, Nat.zero_le _⟩ (fun H locs hP hD hS => ?_)
  refine lv_pop hx hb d_Md_beginOn_34 rfl ?_
  refine lv_iload_n hx hb d_Md_beginOn_35 rfl (lv_at hl 0 rfl) ?_
  cases hf
  exact kI hx hb hr hlk hP hD hS d_Md_beginOn_36
set_option maxHeartbeats 4000000 in
set_option maxRecDepth 100000 in
theorem t_Md_isStopped (l : Launch) (G : GG) (a : Nat) (l1 : Int32) (f : (Nat → Int32)) (q : Int32) (hf : f_Md_isStopped l1 f = some q) : MI l G y_Md_isStopped c_Md_isStopped 2 (some .boolean) (rmk 0 0) (W_Row G 2400 a f) [.ref a, .int l1] (W_Row G 2400 a f) (q) := by
  refine ofI "FloodDiaryModel" (by decide +kernel) rfl (Nat.le_of_ble_eq_true rfl) (fun p e s m args below meth c A ls hx hb hr hml hown hts hlk hK hN hA hP hD hS hl => ?_)
  have hl : lv_has ls 2 [(0, .ref a), (1, .int l1)] := hl
  unfold f_Md_isStopped at hf
  refine lv_aload_n hx hb d_Md_isStopped_0 rfl (lv_at hl 0 rfl) ?_
  refine lv_bipush (v := (59 : Int32)) hx hb d_Md_isStopped_1 (by decide) ?_
  obtain ⟨g_3, hf⟩ := og_e hf
  refine va_iald hx hb hK hP 0 0 rfl rfl g_3 d_Md_isStopped_3 ?_
  refine lv_iconst (v := (1 : Int32)) hx hb d_Md_isStopped_4 (by decide) ?_
  refine lv_icmp_eq (tgt := 17) hx hb d_Md_isStopped_5 (by decide) (fun c_5 => ?_) (fun c_5 => ?_)
  · replace hf := ob_et c_5 hf
    refine lv_iconst (v := (1 : Int32)) hx hb d_Md_isStopped_17 (by decide) ?_
    refine lv_goto (tgt := 22) hx hb d_Md_isStopped_18 (by decide) ?_
    cases hf
    exact kZ hx hb hr hlk hP hD hS (Or.inr rfl) d_Md_isStopped_22
  · replace hf := ob_ef c_5 hf
    refine lv_aload_n hx hb d_Md_isStopped_8 rfl (lv_at hl 0 rfl) ?_
    refine lv_bipush (v := (40 : Int32)) hx hb d_Md_isStopped_9 (by decide) ?_
    refine lv_iload_n hx hb d_Md_isStopped_11 rfl (lv_at hl 1 rfl) ?_
    refine lv_iadd hx hb d_Md_isStopped_12 ?_
    obtain ⟨g_13, hf⟩ := og_e hf
    refine va_iald hx hb hK hP 0 0 rfl rfl g_13 d_Md_isStopped_13 ?_
    refine lv_if_eq (tgt := 21) hx hb d_Md_isStopped_14 (by decide) (fun c_14 => ?_) (fun c_14 => ?_)
    · replace hf := ob_et c_14 hf
      refine lv_iconst (v := (0 : Int32)) hx hb d_Md_isStopped_21 (by decide) ?_
      cases hf
      exact kZ hx hb hr hlk hP hD hS (Or.inl rfl) d_Md_isStopped_22
    · replace hf := ob_ef c_14 hf
      refine lv_iconst (v := (1 : Int32)) hx hb d_Md_isStopped_17 (by decide) ?_
      refine lv_goto (tgt := 22) hx hb d_Md_isStopped_18 (by decide) ?_
      cases hf
      exact kZ hx hb hr hlk hP hD hS (Or.inr rfl) d_Md_isStopped_22
set_option maxHeartbeats 4000000 in
set_option maxRecDepth 100000 in
theorem t_Md_whyNotWrite (l : Launch) (G : GG) (a : Nat) (l1 : Int32) (l2 : Int32) (l3 : Int32) (f : (Nat → Int32)) (q : Int32) (hf : f_Md_whyNotWrite l1 l2 l3 f = some q) : MI l G y_Md_whyNotWrite c_Md_whyNotWrite 5 (some .int) (rmk 3 65) (W_Row G 2400 a f) [.ref a, .int l1, .int l2, .int l3] (W_Row G 2400 a f) (q) := by
  refine ofI "FloodDiaryModel" (by decide +kernel) rfl (Nat.le_of_ble_eq_true rfl) (fun p e s m args below meth c A ls hx hb hr hml hown hts hlk hK hN hA hP hD hS hl => ?_)
  have hl : lv_has ls 5 [(0, .ref a), (1, .int l1), (2, .int l2), (3, .int l3)] := hl
  unfold f_Md_whyNotWrite at hf
  refine lv_aload_n hx hb d_Md_whyNotWrite_0 rfl (lv_at hl 0 rfl) ?_
  refine lv_iload_n hx hb d_Md_whyNotWrite_1 rfl (lv_at hl 1 rfl) ?_
  obtain ⟨q_2, hc_2, hf⟩ := oc_e hf
  refine kcS (cc := c_Md_whyNotWrite) (own := "FloodDiaryModel") (index := 99) (wc := W_Row G 2400 a f) (wr := ([] : va_W)) (wc' := W_Row G 2400 a f) (ws' := W_Row G 2400 a f) hx hb hml hown hts hK hN hA hP hD hS (t_Md_isWork l G a l1 f q_2 hc_2) m_Md_isWork k_815 ⟨Nat.le_of_ble_eq_true rfl, Nat.le_of_ble_eq_true rfl⟩ (pm_0 (W_Row G 2400 a f)) (pm_0 (W_Row G 2400 a f)).symm rfl rfl (Nat.le_of_ble_eq_true rfl) hl.1 d_Md_whyNotWrite_2 ⟨Nat.zero_le _, Nat.zero_le _⟩ (fun H locs hP hD hS => ?_)
  refine lv_if_eq (tgt := 15) hx hb d_Md_whyNotWrite_5 (by decide) (fun c_5 => ?_) (fun c_5 => ?_)
  · replace hf := ob_et c_5 hf
    refine lv_iconst (v := (-1 : Int32)) hx hb d_Md_whyNotWrite_15 (by decide) ?_
    cases hf
    exact kI hx hb hr hlk hP hD hS d_Md_whyNotWrite_16
  · replace hf := ob_ef c_5 hf
    refine lv_iload_n hx hb d_Md_whyNotWrite_8 rfl (lv_at hl 2 rfl) ?_
    obtain ⟨q_9, hc_9, hf⟩ := oc_e hf
    refine kcS (cc := c_Md_whyNotWrite) (own := "FloodDiaryModel") (index := 103) (wc := ([] : va_W)) (wr := W_Row G 2400 a f) (wc' := ([] : va_W)) (ws' := W_Row G 2400 a f) hx hb hml hown hts hK hN hA hP hD hS (t_Md_isPage l G l2 q_9 hc_9) m_Md_isPage k_821 ⟨Nat.le_of_ble_eq_true rfl, Nat.le_of_ble_eq_true rfl⟩ (List.Perm.refl _) (List.Perm.refl _) rfl rfl (Nat.le_of_ble_eq_true rfl) hl.1 d_Md_whyNotWrite_9 ⟨Nat.zero_le _, Nat.zero_le _⟩ (fun H locs hP hD hS => ?_)
    refine lv_if_ne (tgt := 17) hx hb d_Md_whyNotWrite_12 (by decide) (fun c_12 => ?_) (fun c_12 => ?_)
    · replace hf := ob_ef c_12 hf
      refine lv_iload_n hx hb d_Md_whyNotWrite_17 rfl (lv_at hl 3 rfl) ?_
      refine lv_i2l (v := l3.toInt64) hx hb d_Md_whyNotWrite_18 rfl ?_
      refine lv_lconst (v := (0 : Int64)) hx hb d_Md_whyNotWrite_19 (by decide) ?_
      refine lv_ldc2 (v := (999 : Int64)) hx hb hown (hts _ k_825) d_Md_whyNotWrite_20 ?_
      obtain ⟨q_23, hc_23, hf⟩ := oc_e hf
      refine kcS (cc := c_Md_whyNotWrite) (own := "FloodDiaryModel") (index := 35) (wc := ([] : va_W)) (wr := W_Row G 2400 a f) (wc' := ([] : va_W)) (ws' := W_Row G 2400 a f) hx hb hml hown hts hK hN hA hP hD hS (t_Md_in l G l3.toInt64 (0 : Int64) (999 : Int64) q_23 hc_23) m_Md_in k_818 ⟨Nat.le_of_ble_eq_true rfl, Nat.le_of_ble_eq_true rfl⟩ (List.Perm.refl _) (List.Perm.refl _) rfl rfl (Nat.le_of_ble_eq_true rfl) hl.1 d_Md_whyNotWrite_23 ⟨Nat.zero_le _, Nat.zero_le _⟩ (fun H locs hP hD hS => ?_)
      refine lv_if_ne (tgt := 32) hx hb d_Md_whyNotWrite_26 (by decide) (fun c_26 => ?_) (fun c_26 => ?_)
      · replace hf := ob_ef c_26 hf
        refine lv_aload_n hx hb d_Md_whyNotWrite_32 rfl (lv_at hl 0 rfl) ?_
        refine lv_bipush (v := (57 : Int32)) hx hb d_Md_whyNotWrite_33 (by decide) ?_
        obtain ⟨g_35, hf⟩ := og_e hf
        refine va_iald hx hb hK hP 0 0 rfl rfl g_35 d_Md_whyNotWrite_35 ?_
        refine lv_sipush (v := (150 : Int32)) hx hb d_Md_whyNotWrite_36 (by decide) ?_
        refine lv_icmp_lt (tgt := 45) hx hb d_Md_whyNotWrite_39 (by decide) (fun c_39 => ?_) (fun c_39 => ?_)
        · replace hf := ob_et c_39 hf
          refine lv_aload_n hx hb d_Md_whyNotWrite_45 rfl (lv_at hl 0 rfl) ?_
          refine lv_iload_n hx hb d_Md_whyNotWrite_46 rfl (lv_at hl 2 rfl) ?_
          obtain ⟨q_47, hc_47, hf⟩ := oc_e hf
          refine kcS (cc := c_Md_whyNotWrite) (own := "FloodDiaryModel") (index := 109) (wc := W_Row G 2400 a f) (wr := ([] : va_W)) (wc' := W_Row G 2400 a f) (ws' := W_Row G 2400 a f) hx hb hml hown hts hK hN hA hP hD hS (t_Md_holder l G a l2 f q_47 hc_47) m_Md_holder k_826 ⟨Nat.le_of_ble_eq_true rfl, Nat.le_of_ble_eq_true rfl⟩ (pm_0 (W_Row G 2400 a f)) (pm_0 (W_Row G 2400 a f)).symm rfl rfl (Nat.le_of_ble_eq_true rfl) hl.1 d_Md_whyNotWrite_47 ⟨Nat.zero_le _, Nat.zero_le _⟩ (fun H locs hP hD hS => ?_)
          refine lv_istore (lv' := [(4, .int q_47), (0, .ref a), (1, .int l1), (2, .int l2), (3, .int l3)]) hx hb d_Md_whyNotWrite_50 hl (by decide) rfl (fun ls hl => ?_)
          refine lv_aload_n hx hb d_Md_whyNotWrite_52 rfl (lv_at hl 1 rfl) ?_
          refine lv_iload_n hx hb d_Md_whyNotWrite_53 rfl (lv_at hl 2 rfl) ?_
          obtain ⟨q_54, hc_54, hf⟩ := oc_e hf
          refine kcS (cc := c_Md_whyNotWrite) (own := "FloodDiaryModel") (index := 112) (wc := W_Row G 2400 a f) (wr := ([] : va_W)) (wc' := W_Row G 2400 a f) (ws' := W_Row G 2400 a f) hx hb hml hown hts hK hN hA hP hD hS (t_Md_isStopped l G a l1 f q_54 hc_54) m_Md_isStopped k_832 ⟨Nat.le_of_ble_eq_true rfl, Nat.le_of_ble_eq_true rfl⟩ (pm_0 (W_Row G 2400 a f)) (pm_0 (W_Row G 2400 a f)).symm rfl rfl (Nat.le_of_ble_eq_true rfl) hl.1 d_Md_whyNotWrite_54 ⟨Nat.zero_le _, Nat.zero_le _⟩ (fun H locs hP hD hS => ?_)
          refine lv_if_ne (tgt := 73) hx hb d_Md_whyNotWrite_57 (by decide) (fun c_57 => ?_) (fun c_57 => ?_)
          · replace hf := ob_ef c_57 hf
            refine lv_bipush (v := (-5 : Int32)) hx hb d_Md_whyNotWrite_73 (by decide) ?_
            refine lv_goto (tgt := 79) hx hb d_Md_whyNotWrite_75 (by decide) ?_
            cases hf
            exact kI hx hb hr hlk hP hD hS d_Md_whyNotWrite_79
          · replace hf := ob_et c_57 hf
            refine lv_iload hx hb d_Md_whyNotWrite_60 (lv_at hl 0 rfl) ?_
            refine lv_bipush (v := (-6 : Int32)) hx hb d_Md_whyNotWrite_62 (by decide) ?_
            refine lv_icmp_eq (tgt := 78) hx hb d_Md_whyNotWrite_64 (by decide) (fun c_64 => ?_) (fun c_64 => ?_)
            · replace hf := ob_et c_64 hf
              refine lv_iconst (v := (0 : Int32)) hx hb d_Md_whyNotWrite_78 (by decide) ?_
              cases hf
              exact kI hx hb hr hlk hP hD hS d_Md_whyNotWrite_79
            · replace hf := ob_ef c_64 hf
              refine lv_iload hx hb d_Md_whyNotWrite_67 (lv_at hl 0 rfl) ?_
              refine lv_iload_n hx hb d_Md_whyNotWrite_69 rfl (lv_at hl 2 rfl) ?_
              refine lv_icmp_eq (tgt := 78) hx hb d_Md_whyNotWrite_70 (by decide) (fun c_70 => ?_) (fun c_70 => ?_)
              · replace hf := ob_et c_70 hf
                refine lv_iconst (v := (0 : Int32)) hx hb d_Md_whyNotWrite_78 (by decide) ?_
                cases hf
                exact kI hx hb hr hlk hP hD hS d_Md_whyNotWrite_79
              · replace hf := ob_ef c_70 hf
                refine lv_bipush (v := (-5 : Int32)) hx hb d_Md_whyNotWrite_73 (by decide) ?_
                refine lv_goto (tgt := 79) hx hb d_Md_whyNotWrite_75 (by decide) ?_
                cases hf
                exact kI hx hb hr hlk hP hD hS d_Md_whyNotWrite_79
        · replace hf := ob_ef c_39 hf
          refine lv_bipush (v := (-4 : Int32)) hx hb d_Md_whyNotWrite_42 (by decide) ?_
          cases hf
          exact kI hx hb hr hlk hP hD hS d_Md_whyNotWrite_44
      · replace hf := ob_et c_26 hf
        refine lv_bipush (v := (-2 : Int32)) hx hb d_Md_whyNotWrite_29 (by decide) ?_
        cases hf
        exact kI hx hb hr hlk hP hD hS d_Md_whyNotWrite_31
    · replace hf := ob_et c_12 hf
      refine lv_iconst (v := (-1 : Int32)) hx hb d_Md_whyNotWrite_15 (by decide) ?_
      cases hf
      exact kI hx hb hr hlk hP hD hS d_Md_whyNotWrite_16
set_option maxHeartbeats 4000000 in
set_option maxRecDepth 100000 in
theorem t_Md_writeOn (l : Launch) (G : GG) (a : Nat) (l1 : Int32) (l2 : Int32) (l3 : Int32) (f : (Nat → Int32)) (q : Int32 × (Nat → Int32)) (hf : f_Md_writeOn l1 l2 l3 f = some q) : MI l G y_Md_writeOn c_Md_writeOn 6 (some .int) (rmk 3 70) (W_Row G 2400 a f) [.ref a, .int l1, .int l2, .int l3] (W_Row G 2400 a q.2) (q.1) := by
  refine ofI "FloodDiaryModel" (by decide +kernel) rfl (Nat.le_of_ble_eq_true rfl) (fun p e s m args below meth c A ls hx hb hr hml hown hts hlk hK hN hA hP hD hS hl => ?_)
  have hl : lv_has ls 6 [(0, .ref a), (1, .int l1), (2, .int l2), (3, .int l3)] := hl
  unfold f_Md_writeOn at hf
  refine lv_aload_n hx hb d_Md_writeOn_0 rfl (lv_at hl 0 rfl) ?_
  refine lv_iload_n hx hb d_Md_writeOn_1 rfl (lv_at hl 2 rfl) ?_
  obtain ⟨q_2, hc_2, hf⟩ := oc_e hf
  refine kcSv (cc := c_Md_writeOn) (own := "FloodDiaryModel") (index := 39) (wc := W_Row G 2400 a f) (wr := ([] : va_W)) (wc' := W_Row G 2400 a q_2) (ws' := W_Row G 2400 a q_2) hx hb hml hown hts hK hN hA hP hD hS (t_Md_takeInHand l G a l2 f q_2 hc_2) m_Md_takeInHand k_838 ⟨Nat.le_of_ble_eq_true rfl, Nat.le_of_ble_eq_true rfl⟩ (pm_0 (W_Row G 2400 a f)) (pm_0 (W_Row G 2400 a q_2)).symm rfl rfl (Nat.le_of_ble_eq_true rfl) hl.1 d_Md_writeOn_2 ⟨Nat.zero_le _, Nat.zero_le _⟩ (fun H locs hP hD hS => ?_)
  refine lv_aload_n hx hb d_Md_writeOn_5 rfl (lv_at hl 0 rfl) ?_
  refine lv_bipush (v := (24 : Int32)) hx hb d_Md_writeOn_6 (by decide) ?_
  refine lv_iload_n hx hb d_Md_writeOn_8 rfl (lv_at hl 2 rfl) ?_
  refine lv_iadd hx hb d_Md_writeOn_9 ?_
  obtain ⟨g_10, hf⟩ := og_e hf
  refine va_iald hx hb hK hP 0 0 rfl rfl g_10 d_Md_writeOn_10 ?_
  refine lv_istore (lv' := [(4, .int (q_2 ((24 : Int32) + l2).toNatClampNeg)), (0, .ref a), (1, .int l1), (2, .int l2), (3, .int l3)]) hx hb d_Md_writeOn_11 hl (by decide) rfl (fun ls hl => ?_)
  refine lv_aload_n hx hb d_Md_writeOn_13 rfl (lv_at hl 1 rfl) ?_
  refine lv_iconst (v := (1 : Int32)) hx hb d_Md_writeOn_14 (by decide) ?_
  refine lv_iload_n hx hb d_Md_writeOn_15 rfl (lv_at hl 2 rfl) ?_
  refine lv_iload_n hx hb d_Md_writeOn_16 rfl (lv_at hl 3 rfl) ?_
  refine lv_iload hx hb d_Md_writeOn_17 (lv_at hl 0 rfl) ?_
  refine lv_iload_n hx hb d_Md_writeOn_19 rfl (lv_at hl 4 rfl) ?_
  refine lv_bipush (v := (-6 : Int32)) hx hb d_Md_writeOn_20 (by decide) ?_
  obtain ⟨q_22, hc_22, hf⟩ := oc_e hf
  refine kcS (cc := c_Md_writeOn) (own := "FloodDiaryModel") (index := 57) (wc := W_Row G 2400 a q_2) (wr := ([] : va_W)) (wc' := W_Row G 2400 a q_22.2) (ws' := W_Row G 2400 a q_22.2) hx hb hml hown hts hK hN hA hP hD hS (t_Md_enter l G a (1 : Int32) l1 l2 (q_2 ((24 : Int32) + l2).toNatClampNeg) l3 (-6 : Int32) q_2 q_22 hc_22) m_Md_enter k_799 ⟨Nat.le_of_ble_eq_true rfl, Nat.le_of_ble_eq_true rfl⟩ (pm_0 (W_Row G 2400 a q_2)) (pm_0 (W_Row G 2400 a q_22.2)).symm rfl rfl (Nat.le_of_ble_eq_true rfl) hl.1 d_Md_writeOn_22 ⟨Nat.zero_le _, Nat.zero_le _⟩ (fun H locs hP hD hS => ?_)
  refine lv_istore (lv' := [(5, .int q_22.1), (4, .int (q_2 ((24 : Int32) + l2).toNatClampNeg)), (0, .ref a), (1, .int l1), (2, .int l2), (3, .int l3)]) hx hb d_Md_writeOn_25 hl (by decide) rfl (fun ls hl => ?_)
  refine lv_aload_n hx hb d_Md_writeOn_27 rfl (lv_at hl 2 rfl) ?_
  refine lv_iload_n hx hb d_Md_writeOn_28 rfl (lv_at hl 4 rfl) ?_
  refine lv_iload_n hx hb d_Md_writeOn_29 rfl (lv_at hl 5 rfl) ?_
  refine lv_iload hx hb d_Md_writeOn_30 (lv_at hl 0 rfl) ?_
  obtain ⟨q_32, hc_32, hf⟩ := oc_e hf
  refine kcSv (cc := c_Md_writeOn) (own := "FloodDiaryModel") (index := 61) (wc := W_Row G 2400 a q_22.2) (wr := ([] : va_W)) (wc' := W_Row G 2400 a q_32) (ws' := W_Row G 2400 a q_32) hx hb hml hown hts hK hN hA hP hD hS (t_Md_change l G a l2 l3 q_22.1 q_22.2 q_32 hc_32) m_Md_change k_841 ⟨Nat.le_of_ble_eq_true rfl, Nat.le_of_ble_eq_true rfl⟩ (pm_0 (W_Row G 2400 a q_22.2)) (pm_0 (W_Row G 2400 a q_32)).symm rfl rfl (Nat.le_of_ble_eq_true rfl) hl.1 d_Md_writeOn_32 ⟨Nat.zero_le _, Nat.zero_le _⟩ (fun H locs hP hD hS => ?_)
  refine lv_iload hx hb d_Md_writeOn_35 (lv_at hl 1 rfl) ?_
  cases hf
  exact kI hx hb hr hlk hP hD hS d_Md_writeOn_37
set_option maxHeartbeats 4000000 in
set_option maxRecDepth 100000 in
theorem t_Md_whyNotFinish (l : Launch) (G : GG) (a : Nat) (l1 : Int32) (f : (Nat → Int32)) (q : Int32) (hf : f_Md_whyNotFinish l1 f = some q) : MI l G y_Md_whyNotFinish c_Md_whyNotFinish 2 (some .int) (rmk 2 46) (W_Row G 2400 a f) [.ref a, .int l1] (W_Row G 2400 a f) (q) := by
  refine ofI "FloodDiaryModel" (by decide +kernel) rfl (Nat.le_of_ble_eq_true rfl) (fun p e s m args below meth c A ls hx hb hr hml hown hts hlk hK hN hA hP hD hS hl => ?_)
  have hl : lv_has ls 2 [(0, .ref a), (1, .int l1)] := hl
  unfold f_Md_whyNotFinish at hf
  refine lv_aload_n hx hb d_Md_whyNotFinish_0 rfl (lv_at hl 0 rfl) ?_
  refine lv_iload_n hx hb d_Md_whyNotFinish_1 rfl (lv_at hl 1 rfl) ?_
  obtain ⟨q_2, hc_2, hf⟩ := oc_e hf
  refine kcS (cc := c_Md_whyNotFinish) (own := "FloodDiaryModel") (index := 99) (wc := W_Row G 2400 a f) (wr := ([] : va_W)) (wc' := W_Row G 2400 a f) (ws' := W_Row G 2400 a f) hx hb hml hown hts hK hN hA hP hD hS (t_Md_isWork l G a l1 f q_2 hc_2) m_Md_isWork k_815 ⟨Nat.le_of_ble_eq_true rfl, Nat.le_of_ble_eq_true rfl⟩ (pm_0 (W_Row G 2400 a f)) (pm_0 (W_Row G 2400 a f)).symm rfl rfl (Nat.le_of_ble_eq_true rfl) hl.1 d_Md_whyNotFinish_2 ⟨Nat.zero_le _, Nat.zero_le _⟩ (fun H locs hP hD hS => ?_)
  refine lv_if_ne (tgt := 12) hx hb d_Md_whyNotFinish_5 (by decide) (fun c_5 => ?_) (fun c_5 => ?_)
  · replace hf := ob_ef c_5 hf
    refine lv_aload_n hx hb d_Md_whyNotFinish_12 rfl (lv_at hl 0 rfl) ?_
    refine lv_bipush (v := (57 : Int32)) hx hb d_Md_whyNotFinish_13 (by decide) ?_
    obtain ⟨g_15, hf⟩ := og_e hf
    refine va_iald hx hb hK hP 0 0 rfl rfl g_15 d_Md_whyNotFinish_15 ?_
    refine lv_sipush (v := (150 : Int32)) hx hb d_Md_whyNotFinish_16 (by decide) ?_
    refine lv_icmp_lt (tgt := 27) hx hb d_Md_whyNotFinish_19 (by decide) (fun c_19 => ?_) (fun c_19 => ?_)
    · replace hf := ob_et c_19 hf
      refine lv_aload_n hx hb d_Md_whyNotFinish_27 rfl (lv_at hl 0 rfl) ?_
      refine lv_iload_n hx hb d_Md_whyNotFinish_28 rfl (lv_at hl 1 rfl) ?_
      obtain ⟨q_29, hc_29, hf⟩ := oc_e hf
      refine kcS (cc := c_Md_whyNotFinish) (own := "FloodDiaryModel") (index := 112) (wc := W_Row G 2400 a f) (wr := ([] : va_W)) (wc' := W_Row G 2400 a f) (ws' := W_Row G 2400 a f) hx hb hml hown hts hK hN hA hP hD hS (t_Md_isStopped l G a l1 f q_29 hc_29) m_Md_isStopped k_832 ⟨Nat.le_of_ble_eq_true rfl, Nat.le_of_ble_eq_true rfl⟩ (pm_0 (W_Row G 2400 a f)) (pm_0 (W_Row G 2400 a f)).symm rfl rfl (Nat.le_of_ble_eq_true rfl) hl.1 d_Md_whyNotFinish_29 ⟨Nat.zero_le _, Nat.zero_le _⟩ (fun H locs hP hD hS => ?_)
      refine lv_if_eq (tgt := 40) hx hb d_Md_whyNotFinish_32 (by decide) (fun c_32 => ?_) (fun c_32 => ?_)
      · replace hf := ob_et c_32 hf
        refine lv_iconst (v := (0 : Int32)) hx hb d_Md_whyNotFinish_40 (by decide) ?_
        cases hf
        exact kI hx hb hr hlk hP hD hS d_Md_whyNotFinish_41
      · replace hf := ob_ef c_32 hf
        refine lv_bipush (v := (-5 : Int32)) hx hb d_Md_whyNotFinish_35 (by decide) ?_
        refine lv_goto (tgt := 41) hx hb d_Md_whyNotFinish_37 (by decide) ?_
        cases hf
        exact kI hx hb hr hlk hP hD hS d_Md_whyNotFinish_41
    · replace hf := ob_ef c_19 hf
      refine lv_bipush (v := (-4 : Int32)) hx hb d_Md_whyNotFinish_22 (by decide) ?_
      refine lv_goto (tgt := 41) hx hb d_Md_whyNotFinish_24 (by decide) ?_
      cases hf
      exact kI hx hb hr hlk hP hD hS d_Md_whyNotFinish_41
  · replace hf := ob_et c_5 hf
    refine lv_iconst (v := (-1 : Int32)) hx hb d_Md_whyNotFinish_8 (by decide) ?_
    refine lv_goto (tgt := 41) hx hb d_Md_whyNotFinish_9 (by decide) ?_
    cases hf
    exact kI hx hb hr hlk hP hD hS d_Md_whyNotFinish_41
set_option maxHeartbeats 4000000 in
set_option maxRecDepth 100000 in
theorem t_Md_finishOn (l : Launch) (G : GG) (a : Nat) (l1 : Int32) (f : (Nat → Int32)) (q : Int32 × (Nat → Int32)) (hf : f_Md_finishOn l1 f = some q) : MI l G y_Md_finishOn c_Md_finishOn 3 (some .int) (rmk 3 70) (W_Row G 2400 a f) [.ref a, .int l1] (W_Row G 2400 a q.2) (q.1) := by
  refine ofI "FloodDiaryModel" (by decide +kernel) rfl (Nat.le_of_ble_eq_true rfl) (fun p e s m args below meth c A ls hx hb hr hml hown hts hlk hK hN hA hP hD hS hl => ?_)
  have hl : lv_has ls 3 [(0, .ref a), (1, .int l1)] := hl
  unfold f_Md_finishOn at hf
  refine lv_aload_n hx hb d_Md_finishOn_0 rfl (lv_at hl 0 rfl) ?_
  refine lv_iconst (v := (3 : Int32)) hx hb d_Md_finishOn_1 (by decide) ?_
  refine lv_iload_n hx hb d_Md_finishOn_2 rfl (lv_at hl 1 rfl) ?_
  refine lv_bipush (v := (-6 : Int32)) hx hb d_Md_finishOn_3 (by decide) ?_
  refine lv_bipush (v := (-6 : Int32)) hx hb d_Md_finishOn_5 (by decide) ?_
  refine lv_bipush (v := (-6 : Int32)) hx hb d_Md_finishOn_7 (by decide) ?_
  refine lv_bipush (v := (-6 : Int32)) hx hb d_Md_finishOn_9 (by decide) ?_
  obtain ⟨q_11, hc_11, hf⟩ := oc_e hf
  refine kcS (cc := c_Md_finishOn) (own := "FloodDiaryModel") (index := 57) (wc := W_Row G 2400 a f) (wr := ([] : va_W)) (wc' := W_Row G 2400 a q_11.2) (ws' := W_Row G 2400 a q_11.2) hx hb hml hown hts hK hN hA hP hD hS (t_Md_enter l G a (3 : Int32) l1 (-6 : Int32) (-6 : Int32) (-6 : Int32) (-6 : Int32) f q_11 hc_11) m_Md_enter k_799 ⟨Nat.le_of_ble_eq_true rfl, Nat.le_of_ble_eq_true rfl⟩ (pm_0 (W_Row G 2400 a f)) (pm_0 (W_Row G 2400 a q_11.2)).symm rfl rfl (Nat.le_of_ble_eq_true rfl) hl.1 d_Md_finishOn_11 ⟨Nat.zero_le _, Nat.zero_le _⟩ (fun H locs hP hD hS => ?_)
  refine lv_istore_n (lv' := [(2, .int q_11.1), (0, .ref a), (1, .int l1)]) hx hb d_Md_finishOn_14 rfl hl (by decide) rfl (fun ls hl => ?_)
  refine lv_aload_n hx hb d_Md_finishOn_15 rfl (lv_at hl 1 rfl) ?_
  refine lv_bipush (v := (40 : Int32)) hx hb d_Md_finishOn_16 (by decide) ?_
  refine lv_iload_n hx hb d_Md_finishOn_18 rfl (lv_at hl 2 rfl) ?_
  refine lv_iadd hx hb d_Md_finishOn_19 ?_
  refine lv_iconst (v := (1 : Int32)) hx hb d_Md_finishOn_20 (by decide) ?_
  obtain ⟨g_21, hf⟩ := og_e hf
  obtain ⟨r_21, er_21, hf⟩ := nx_e hf
  refine va_iast hx hb hK hP hD hS 0 0 rfl rfl g_21 d_Md_finishOn_21 (fun H locs hP hD hS => ?_)
  rw [← er_21] at hP hD
  have hP : va_P G.1 vwCl (W_Row G 2400 a r_21) H := hP
  have hD : va_D A (W_Row G 2400 a r_21) := hD
  refine lv_aload_n hx hb d_Md_finishOn_22 rfl (lv_at hl 1 rfl) ?_
  refine lv_iload_n hx hb d_Md_finishOn_23 rfl (lv_at hl 0 rfl) ?_
  obtain ⟨q_24, hc_24, hf⟩ := oc_e hf
  refine kcSv (cc := c_Md_finishOn) (own := "FloodDiaryModel") (index := 122) (wc := W_Row G 2400 a r_21) (wr := ([] : va_W)) (wc' := W_Row G 2400 a q_24) (ws' := W_Row G 2400 a q_24) hx hb hml hown hts hK hN hA hP hD hS (t_Md_saveTo l G a q_11.1 r_21 q_24 hc_24) m_Md_saveTo k_854 ⟨Nat.le_of_ble_eq_true rfl, Nat.le_of_ble_eq_true rfl⟩ (pm_0 (W_Row G 2400 a r_21)) (pm_0 (W_Row G 2400 a q_24)).symm rfl rfl (Nat.le_of_ble_eq_true rfl) hl.1 d_Md_finishOn_24 ⟨Nat.zero_le _, Nat.zero_le _⟩ (fun H locs hP hD hS => ?_)
  refine lv_iload_n hx hb d_Md_finishOn_27 rfl (lv_at hl 0 rfl) ?_
  cases hf
  exact kI hx hb hr hlk hP hD hS d_Md_finishOn_28
set_option maxHeartbeats 4000000 in
set_option maxRecDepth 100000 in
theorem t_Md_whyNotTear (l : Launch) (G : GG) (a : Nat) (l1 : Int32) (f : (Nat → Int32)) (q : Int32) (hf : f_Md_whyNotTear l1 f = some q) : MI l G y_Md_whyNotTear c_Md_whyNotTear 2 (some .int) (rmk 2 46) (W_Row G 2400 a f) [.ref a, .int l1] (W_Row G 2400 a f) (q) := by
  refine ofI "FloodDiaryModel" (by decide +kernel) rfl (Nat.le_of_ble_eq_true rfl) (fun p e s m args below meth c A ls hx hb hr hml hown hts hlk hK hN hA hP hD hS hl => ?_)
  have hl : lv_has ls 2 [(0, .ref a), (1, .int l1)] := hl
  unfold f_Md_whyNotTear at hf
  refine lv_aload_n hx hb d_Md_whyNotTear_0 rfl (lv_at hl 0 rfl) ?_
  refine lv_iload_n hx hb d_Md_whyNotTear_1 rfl (lv_at hl 1 rfl) ?_
  obtain ⟨q_2, hc_2, hf⟩ := oc_e hf
  refine kcS (cc := c_Md_whyNotTear) (own := "FloodDiaryModel") (index := 99) (wc := W_Row G 2400 a f) (wr := ([] : va_W)) (wc' := W_Row G 2400 a f) (ws' := W_Row G 2400 a f) hx hb hml hown hts hK hN hA hP hD hS (t_Md_isWork l G a l1 f q_2 hc_2) m_Md_isWork k_815 ⟨Nat.le_of_ble_eq_true rfl, Nat.le_of_ble_eq_true rfl⟩ (pm_0 (W_Row G 2400 a f)) (pm_0 (W_Row G 2400 a f)).symm rfl rfl (Nat.le_of_ble_eq_true rfl) hl.1 d_Md_whyNotTear_2 ⟨Nat.zero_le _, Nat.zero_le _⟩ (fun H locs hP hD hS => ?_)
  refine lv_if_ne (tgt := 12) hx hb d_Md_whyNotTear_5 (by decide) (fun c_5 => ?_) (fun c_5 => ?_)
  · replace hf := ob_ef c_5 hf
    refine lv_aload_n hx hb d_Md_whyNotTear_12 rfl (lv_at hl 0 rfl) ?_
    refine lv_iload_n hx hb d_Md_whyNotTear_13 rfl (lv_at hl 1 rfl) ?_
    obtain ⟨q_14, hc_14, hf⟩ := oc_e hf
    refine kcS (cc := c_Md_whyNotTear) (own := "FloodDiaryModel") (index := 112) (wc := W_Row G 2400 a f) (wr := ([] : va_W)) (wc' := W_Row G 2400 a f) (ws' := W_Row G 2400 a f) hx hb hml hown hts hK hN hA hP hD hS (t_Md_isStopped l G a l1 f q_14 hc_14) m_Md_isStopped k_832 ⟨Nat.le_of_ble_eq_true rfl, Nat.le_of_ble_eq_true rfl⟩ (pm_0 (W_Row G 2400 a f)) (pm_0 (W_Row G 2400 a f)).symm rfl rfl (Nat.le_of_ble_eq_true rfl) hl.1 d_Md_whyNotTear_14 ⟨Nat.zero_le _, Nat.zero_le _⟩ (fun H locs hP hD hS => ?_)
    refine lv_if_eq (tgt := 25) hx hb d_Md_whyNotTear_17 (by decide) (fun c_17 => ?_) (fun c_17 => ?_)
    · replace hf := ob_et c_17 hf
      refine lv_aload_n hx hb d_Md_whyNotTear_25 rfl (lv_at hl 0 rfl) ?_
      refine lv_bipush (v := (57 : Int32)) hx hb d_Md_whyNotTear_26 (by decide) ?_
      obtain ⟨g_28, hf⟩ := og_e hf
      refine va_iald hx hb hK hP 0 0 rfl rfl g_28 d_Md_whyNotTear_28 ?_
      refine lv_aload_n hx hb d_Md_whyNotTear_29 rfl (lv_at hl 0 rfl) ?_
      refine lv_iload_n hx hb d_Md_whyNotTear_30 rfl (lv_at hl 1 rfl) ?_
      obtain ⟨q_31, hc_31, hf⟩ := oc_e hf
      refine kcS (cc := c_Md_whyNotTear) (own := "FloodDiaryModel") (index := 131) (wc := W_Row G 2400 a f) (wr := ([] : va_W)) (wc' := W_Row G 2400 a f) (ws' := W_Row G 2400 a f) hx hb hml hown hts hK hN hA hP hD hS (t_Md_stepsToTear l G a l1 f q_31 hc_31) m_Md_stepsToTear k_864 ⟨Nat.le_of_ble_eq_true rfl, Nat.le_of_ble_eq_true rfl⟩ (pm_0 (W_Row G 2400 a f)) (pm_0 (W_Row G 2400 a f)).symm rfl rfl (Nat.le_of_ble_eq_true rfl) hl.1 d_Md_whyNotTear_31 ⟨Nat.zero_le _, Nat.zero_le _⟩ (fun H locs hP hD hS => ?_)
      refine lv_iadd hx hb d_Md_whyNotTear_34 ?_
      refine lv_sipush (v := (150 : Int32)) hx hb d_Md_whyNotTear_35 (by decide) ?_
      refine lv_icmp_le (tgt := 46) hx hb d_Md_whyNotTear_38 (by decide) (fun c_38 => ?_) (fun c_38 => ?_)
      · replace hf := ob_et c_38 hf
        refine lv_iconst (v := (0 : Int32)) hx hb d_Md_whyNotTear_46 (by decide) ?_
        cases hf
        exact kI hx hb hr hlk hP hD hS d_Md_whyNotTear_47
      · replace hf := ob_ef c_38 hf
        refine lv_bipush (v := (-4 : Int32)) hx hb d_Md_whyNotTear_41 (by decide) ?_
        refine lv_goto (tgt := 47) hx hb d_Md_whyNotTear_43 (by decide) ?_
        cases hf
        exact kI hx hb hr hlk hP hD hS d_Md_whyNotTear_47
    · replace hf := ob_ef c_17 hf
      refine lv_bipush (v := (-5 : Int32)) hx hb d_Md_whyNotTear_20 (by decide) ?_
      refine lv_goto (tgt := 47) hx hb d_Md_whyNotTear_22 (by decide) ?_
      cases hf
      exact kI hx hb hr hlk hP hD hS d_Md_whyNotTear_47
  · replace hf := ob_et c_5 hf
    refine lv_iconst (v := (-1 : Int32)) hx hb d_Md_whyNotTear_8 (by decide) ?_
    refine lv_goto (tgt := 47) hx hb d_Md_whyNotTear_9 (by decide) ?_
    cases hf
    exact kI hx hb hr hlk hP hD hS d_Md_whyNotTear_47
set_option maxHeartbeats 4000000 in
set_option maxRecDepth 100000 in
theorem t_Md_whyNotSave (l : Launch) (G : GG) (a : Nat) (l1 : Int32) (f : (Nat → Int32)) (q : Int32) (hf : f_Md_whyNotSave l1 f = some q) : MI l G y_Md_whyNotSave c_Md_whyNotSave 2 (some .int) (rmk 1 25) (W_Row G 2400 a f) [.ref a, .int l1] (W_Row G 2400 a f) (q) := by
  refine ofI "FloodDiaryModel" (by decide +kernel) rfl (Nat.le_of_ble_eq_true rfl) (fun p e s m args below meth c A ls hx hb hr hml hown hts hlk hK hN hA hP hD hS hl => ?_)
  have hl : lv_has ls 2 [(0, .ref a), (1, .int l1)] := hl
  unfold f_Md_whyNotSave at hf
  refine lv_iload_n hx hb d_Md_whyNotSave_0 rfl (lv_at hl 1 rfl) ?_
  refine lv_i2l (v := l1.toInt64) hx hb d_Md_whyNotSave_1 rfl ?_
  refine lv_lconst (v := (1 : Int64)) hx hb d_Md_whyNotSave_2 (by decide) ?_
  refine lv_aload_n hx hb d_Md_whyNotSave_3 rfl (lv_at hl 0 rfl) ?_
  refine lv_bipush (v := (57 : Int32)) hx hb d_Md_whyNotSave_4 (by decide) ?_
  obtain ⟨g_6, hf⟩ := og_e hf
  refine va_iald hx hb hK hP 0 0 rfl rfl g_6 d_Md_whyNotSave_6 ?_
  refine lv_i2l (v := (f (57 : Int32).toNatClampNeg).toInt64) hx hb d_Md_whyNotSave_7 rfl ?_
  obtain ⟨q_8, hc_8, hf⟩ := oc_e hf
  refine kcS (cc := c_Md_whyNotSave) (own := "FloodDiaryModel") (index := 35) (wc := ([] : va_W)) (wr := W_Row G 2400 a f) (wc' := ([] : va_W)) (ws' := W_Row G 2400 a f) hx hb hml hown hts hK hN hA hP hD hS (t_Md_in l G l1.toInt64 (1 : Int64) ((f (57 : Int32).toNatClampNeg).toInt64) q_8 hc_8) m_Md_in k_818 ⟨Nat.le_of_ble_eq_true rfl, Nat.le_of_ble_eq_true rfl⟩ (List.Perm.refl _) (List.Perm.refl _) rfl rfl (Nat.le_of_ble_eq_true rfl) hl.1 d_Md_whyNotSave_8 ⟨Nat.zero_le _, Nat.zero_le _⟩ (fun H locs hP hD hS => ?_)
  refine lv_if_ne (tgt := 18) hx hb d_Md_whyNotSave_11 (by decide) (fun c_11 => ?_) (fun c_11 => ?_)
  · replace hf := ob_ef c_11 hf
    refine lv_aload_n hx hb d_Md_whyNotSave_18 rfl (lv_at hl 0 rfl) ?_
    refine lv_bipush (v := (59 : Int32)) hx hb d_Md_whyNotSave_19 (by decide) ?_
    obtain ⟨g_21, hf⟩ := og_e hf
    refine va_iald hx hb hK hP 0 0 rfl rfl g_21 d_Md_whyNotSave_21 ?_
    refine lv_iconst (v := (1 : Int32)) hx hb d_Md_whyNotSave_22 (by decide) ?_
    refine lv_icmp_ne (tgt := 31) hx hb d_Md_whyNotSave_23 (by decide) (fun c_23 => ?_) (fun c_23 => ?_)
    · replace hf := ob_ef c_23 hf
      refine lv_iconst (v := (0 : Int32)) hx hb d_Md_whyNotSave_31 (by decide) ?_
      cases hf
      exact kI hx hb hr hlk hP hD hS d_Md_whyNotSave_32
    · replace hf := ob_et c_23 hf
      refine lv_bipush (v := (-5 : Int32)) hx hb d_Md_whyNotSave_26 (by decide) ?_
      refine lv_goto (tgt := 32) hx hb d_Md_whyNotSave_28 (by decide) ?_
      cases hf
      exact kI hx hb hr hlk hP hD hS d_Md_whyNotSave_32
  · replace hf := ob_et c_11 hf
    refine lv_iconst (v := (-1 : Int32)) hx hb d_Md_whyNotSave_14 (by decide) ?_
    refine lv_goto (tgt := 32) hx hb d_Md_whyNotSave_15 (by decide) ?_
    cases hf
    exact kI hx hb hr hlk hP hD hS d_Md_whyNotSave_32
set_option maxHeartbeats 4000000 in
set_option maxRecDepth 100000 in
theorem t_Md_whyNotPutAway (l : Launch) (G : GG) (a : Nat) (l1 : Int32) (f : (Nat → Int32)) (q : Int32) (hf : f_Md_whyNotPutAway l1 f = some q) : MI l G y_Md_whyNotPutAway c_Md_whyNotPutAway 2 (some .int) (rmk 2 45) (W_Row G 2400 a f) [.ref a, .int l1] (W_Row G 2400 a f) (q) := by
  refine ofI "FloodDiaryModel" (by decide +kernel) rfl (Nat.le_of_ble_eq_true rfl) (fun p e s m args below meth c A ls hx hb hr hml hown hts hlk hK hN hA hP hD hS hl => ?_)
  have hl : lv_has ls 2 [(0, .ref a), (1, .int l1)] := hl
  unfold f_Md_whyNotPutAway at hf
  refine lv_iload_n hx hb d_Md_whyNotPutAway_0 rfl (lv_at hl 1 rfl) ?_
  obtain ⟨q_1, hc_1, hf⟩ := oc_e hf
  refine kcS (cc := c_Md_whyNotPutAway) (own := "FloodDiaryModel") (index := 103) (wc := ([] : va_W)) (wr := W_Row G 2400 a f) (wc' := ([] : va_W)) (ws' := W_Row G 2400 a f) hx hb hml hown hts hK hN hA hP hD hS (t_Md_isPage l G l1 q_1 hc_1) m_Md_isPage k_821 ⟨Nat.le_of_ble_eq_true rfl, Nat.le_of_ble_eq_true rfl⟩ (List.Perm.refl _) (List.Perm.refl _) rfl rfl (Nat.le_of_ble_eq_true rfl) hl.1 d_Md_whyNotPutAway_1 ⟨Nat.zero_le _, Nat.zero_le _⟩ (fun H locs hP hD hS => ?_)
  refine lv_if_ne (tgt := 11) hx hb d_Md_whyNotPutAway_4 (by decide) (fun c_4 => ?_) (fun c_4 => ?_)
  · replace hf := ob_ef c_4 hf
    refine lv_aload_n hx hb d_Md_whyNotPutAway_11 rfl (lv_at hl 0 rfl) ?_
    refine lv_bipush (v := (59 : Int32)) hx hb d_Md_whyNotPutAway_12 (by decide) ?_
    obtain ⟨g_14, hf⟩ := og_e hf
    refine va_iald hx hb hK hP 0 0 rfl rfl g_14 d_Md_whyNotPutAway_14 ?_
    refine lv_iconst (v := (1 : Int32)) hx hb d_Md_whyNotPutAway_15 (by decide) ?_
    refine lv_icmp_eq (tgt := 28) hx hb d_Md_whyNotPutAway_16 (by decide) (fun c_16 => ?_) (fun c_16 => ?_)
    · replace hf := ob_et c_16 hf
      refine lv_bipush (v := (-5 : Int32)) hx hb d_Md_whyNotPutAway_28 (by decide) ?_
      refine lv_goto (tgt := 34) hx hb d_Md_whyNotPutAway_30 (by decide) ?_
      cases hf
      exact kI hx hb hr hlk hP hD hS d_Md_whyNotPutAway_34
    · replace hf := ob_ef c_16 hf
      refine lv_aload_n hx hb d_Md_whyNotPutAway_19 rfl (lv_at hl 0 rfl) ?_
      refine lv_bipush (v := (16 : Int32)) hx hb d_Md_whyNotPutAway_20 (by decide) ?_
      refine lv_iload_n hx hb d_Md_whyNotPutAway_22 rfl (lv_at hl 1 rfl) ?_
      refine lv_iadd hx hb d_Md_whyNotPutAway_23 ?_
      obtain ⟨g_24, hf⟩ := og_e hf
      refine va_iald hx hb hK hP 0 0 rfl rfl g_24 d_Md_whyNotPutAway_24 ?_
      refine lv_if_ne (tgt := 33) hx hb d_Md_whyNotPutAway_25 (by decide) (fun c_25 => ?_) (fun c_25 => ?_)
      · replace hf := ob_ef c_25 hf
        refine lv_iconst (v := (0 : Int32)) hx hb d_Md_whyNotPutAway_33 (by decide) ?_
        cases hf
        exact kI hx hb hr hlk hP hD hS d_Md_whyNotPutAway_34
      · replace hf := ob_et c_25 hf
        refine lv_bipush (v := (-5 : Int32)) hx hb d_Md_whyNotPutAway_28 (by decide) ?_
        refine lv_goto (tgt := 34) hx hb d_Md_whyNotPutAway_30 (by decide) ?_
        cases hf
        exact kI hx hb hr hlk hP hD hS d_Md_whyNotPutAway_34
  · replace hf := ob_et c_4 hf
    refine lv_iconst (v := (-1 : Int32)) hx hb d_Md_whyNotPutAway_7 (by decide) ?_
    refine lv_goto (tgt := 34) hx hb d_Md_whyNotPutAway_8 (by decide) ?_
    cases hf
    exact kI hx hb hr hlk hP hD hS d_Md_whyNotPutAway_34
set_option maxHeartbeats 4000000 in
set_option maxRecDepth 100000 in
theorem t_Md_putAwayOn (l : Launch) (G : GG) (a : Nat) (l1 : Int32) (f : (Nat → Int32)) (q : Int32 × (Nat → Int32)) (hf : f_Md_putAwayOn l1 f = some q) : MI l G y_Md_putAwayOn c_Md_putAwayOn 2 (some .int) (rmk 1 21) (W_Row G 2400 a f) [.ref a, .int l1] (W_Row G 2400 a q.2) (q.1) := by
  refine ofI "FloodDiaryModel" (by decide +kernel) rfl (Nat.le_of_ble_eq_true rfl) (fun p e s m args below meth c A ls hx hb hr hml hown hts hlk hK hN hA hP hD hS hl => ?_)
  have hl : lv_has ls 2 [(0, .ref a), (1, .int l1)] := hl
  unfold f_Md_putAwayOn at hf
  refine lv_aload_n hx hb d_Md_putAwayOn_0 rfl (lv_at hl 0 rfl) ?_
  refine lv_aload_n hx hb d_Md_putAwayOn_1 rfl (lv_at hl 0 rfl) ?_
  refine lv_bipush (v := (32 : Int32)) hx hb d_Md_putAwayOn_2 (by decide) ?_
  refine lv_iload_n hx hb d_Md_putAwayOn_4 rfl (lv_at hl 1 rfl) ?_
  refine lv_iadd hx hb d_Md_putAwayOn_5 ?_
  obtain ⟨g_6, hf⟩ := og_e hf
  refine va_iald hx hb hK hP 0 0 rfl rfl g_6 d_Md_putAwayOn_6 ?_
  obtain ⟨q_7, hc_7, hf⟩ := oc_e hf
  refine kcSv (cc := c_Md_putAwayOn) (own := "FloodDiaryModel") (index := 122) (wc := W_Row G 2400 a f) (wr := ([] : va_W)) (wc' := W_Row G 2400 a q_7) (ws' := W_Row G 2400 a q_7) hx hb hml hown hts hK hN hA hP hD hS (t_Md_saveTo l G a (f ((32 : Int32) + l1).toNatClampNeg) f q_7 hc_7) m_Md_saveTo k_854 ⟨Nat.le_of_ble_eq_true rfl, Nat.le_of_ble_eq_true rfl⟩ (pm_0 (W_Row G 2400 a f)) (pm_0 (W_Row G 2400 a q_7)).symm rfl rfl (Nat.le_of_ble_eq_true rfl) hl.1 d_Md_putAwayOn_7 ⟨Nat.zero_le _, Nat.zero_le _⟩ (fun H locs hP hD hS => ?_)
  refine lv_aload_n hx hb d_Md_putAwayOn_10 rfl (lv_at hl 0 rfl) ?_
  refine lv_iconst (v := (0 : Int32)) hx hb d_Md_putAwayOn_11 (by decide) ?_
  refine lv_iload_n hx hb d_Md_putAwayOn_12 rfl (lv_at hl 1 rfl) ?_
  refine lv_iadd hx hb d_Md_putAwayOn_13 ?_
  refine lv_aload_n hx hb d_Md_putAwayOn_14 rfl (lv_at hl 0 rfl) ?_
  refine lv_bipush (v := (24 : Int32)) hx hb d_Md_putAwayOn_15 (by decide) ?_
  refine lv_iload_n hx hb d_Md_putAwayOn_17 rfl (lv_at hl 1 rfl) ?_
  refine lv_iadd hx hb d_Md_putAwayOn_18 ?_
  obtain ⟨g_19, hf⟩ := og_e hf
  refine va_iald hx hb hK hP 0 0 rfl rfl g_19 d_Md_putAwayOn_19 ?_
  obtain ⟨g_20, hf⟩ := og_e hf
  obtain ⟨r_20, er_20, hf⟩ := nx_e hf
  refine va_iast hx hb hK hP hD hS 0 0 rfl rfl g_20 d_Md_putAwayOn_20 (fun H locs hP hD hS => ?_)
  rw [← er_20] at hP hD
  have hP : va_P G.1 vwCl (W_Row G 2400 a r_20) H := hP
  have hD : va_D A (W_Row G 2400 a r_20) := hD
  refine lv_aload_n hx hb d_Md_putAwayOn_21 rfl (lv_at hl 0 rfl) ?_
  refine lv_bipush (v := (8 : Int32)) hx hb d_Md_putAwayOn_22 (by decide) ?_
  refine lv_iload_n hx hb d_Md_putAwayOn_24 rfl (lv_at hl 1 rfl) ?_
  refine lv_iadd hx hb d_Md_putAwayOn_25 ?_
  refine lv_aload_n hx hb d_Md_putAwayOn_26 rfl (lv_at hl 0 rfl) ?_
  refine lv_bipush (v := (32 : Int32)) hx hb d_Md_putAwayOn_27 (by decide) ?_
  refine lv_iload_n hx hb d_Md_putAwayOn_29 rfl (lv_at hl 1 rfl) ?_
  refine lv_iadd hx hb d_Md_putAwayOn_30 ?_
  obtain ⟨g_31, hf⟩ := og_e hf
  refine va_iald hx hb hK hP 0 0 rfl rfl g_31 d_Md_putAwayOn_31 ?_
  obtain ⟨g_32, hf⟩ := og_e hf
  obtain ⟨r_32, er_32, hf⟩ := nx_e hf
  refine va_iast hx hb hK hP hD hS 0 0 rfl rfl g_32 d_Md_putAwayOn_32 (fun H locs hP hD hS => ?_)
  rw [← er_32] at hP hD
  have hP : va_P G.1 vwCl (W_Row G 2400 a r_32) H := hP
  have hD : va_D A (W_Row G 2400 a r_32) := hD
  refine lv_aload_n hx hb d_Md_putAwayOn_33 rfl (lv_at hl 0 rfl) ?_
  refine lv_bipush (v := (58 : Int32)) hx hb d_Md_putAwayOn_34 (by decide) ?_
  obtain ⟨g_36, hf⟩ := og_e hf
  refine va_iald hx hb hK hP 0 0 rfl rfl g_36 d_Md_putAwayOn_36 ?_
  cases hf
  exact kI hx hb hr hlk hP hD hS d_Md_putAwayOn_37
set_option maxHeartbeats 4000000 in
set_option maxRecDepth 100000 in
theorem t_Md_valueOf (l : Launch) (G : GG) (a : Nat) (l1 : Int32) (f : (Nat → Int32)) (q : Int32) (hf : f_Md_valueOf l1 f = some q) : MI l G y_Md_valueOf c_Md_valueOf 2 (some .int) (rmk 0 0) (W_Row G 2400 a f) [.ref a, .int l1] (W_Row G 2400 a f) (q) := by
  refine ofI "FloodDiaryModel" (by decide +kernel) rfl (Nat.le_of_ble_eq_true rfl) (fun p e s m args below meth c A ls hx hb hr hml hown hts hlk hK hN hA hP hD hS hl => ?_)
  have hl : lv_has ls 2 [(0, .ref a), (1, .int l1)] := hl
  unfold f_Md_valueOf at hf
  refine lv_aload_n hx hb d_Md_valueOf_0 rfl (lv_at hl 0 rfl) ?_
  refine lv_bipush (v := (16 : Int32)) hx hb d_Md_valueOf_1 (by decide) ?_
  refine lv_iload_n hx hb d_Md_valueOf_3 rfl (lv_at hl 1 rfl) ?_
  refine lv_iadd hx hb d_Md_valueOf_4 ?_
  obtain ⟨g_5, hf⟩ := og_e hf
  refine va_iald hx hb hK hP 0 0 rfl rfl g_5 d_Md_valueOf_5 ?_
  refine lv_iconst (v := (1 : Int32)) hx hb d_Md_valueOf_6 (by decide) ?_
  refine lv_icmp_ne (tgt := 19) hx hb d_Md_valueOf_7 (by decide) (fun c_7 => ?_) (fun c_7 => ?_)
  · replace hf := ob_ef c_7 hf
    refine lv_aload_n hx hb d_Md_valueOf_19 rfl (lv_at hl 0 rfl) ?_
    refine lv_iconst (v := (0 : Int32)) hx hb d_Md_valueOf_20 (by decide) ?_
    refine lv_iload_n hx hb d_Md_valueOf_21 rfl (lv_at hl 1 rfl) ?_
    refine lv_iadd hx hb d_Md_valueOf_22 ?_
    obtain ⟨g_23, hf⟩ := og_e hf
    refine va_iald hx hb hK hP 0 0 rfl rfl g_23 d_Md_valueOf_23 ?_
    cases hf
    exact kI hx hb hr hlk hP hD hS d_Md_valueOf_24
  · replace hf := ob_et c_7 hf
    refine lv_aload_n hx hb d_Md_valueOf_10 rfl (lv_at hl 0 rfl) ?_
    refine lv_bipush (v := (24 : Int32)) hx hb d_Md_valueOf_11 (by decide) ?_
    refine lv_iload_n hx hb d_Md_valueOf_13 rfl (lv_at hl 1 rfl) ?_
    refine lv_iadd hx hb d_Md_valueOf_14 ?_
    obtain ⟨g_15, hf⟩ := og_e hf
    refine va_iald hx hb hK hP 0 0 rfl rfl g_15 d_Md_valueOf_15 ?_
    refine lv_goto (tgt := 24) hx hb d_Md_valueOf_16 (by decide) ?_
    cases hf
    exact kI hx hb hr hlk hP hD hS d_Md_valueOf_24
