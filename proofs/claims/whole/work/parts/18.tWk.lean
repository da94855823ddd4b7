set_option maxHeartbeats 4000000 in
set_option maxRecDepth 100000 in
theorem t_Wk_has (l : Launch) (G : GG) (a : Nat → Nat) (l1 : Int32) (v : V_Wk) (q : Int32) (hf : f_Wk_has l1 v = some q) : MI l G y_Wk_has c_Wk_has 2 (some .boolean) (rmk 0 0) (W_Wk G a v) [.ref (a 0), .int l1] (W_Wk G a v) (q) := by
  refine ofI "FloodDiary$Works" (by decide +kernel) rfl (Nat.le_of_ble_eq_true rfl) (fun p e s m args below meth c A ls hx hb hr hml hown hts hlk hK hN hA hP hD hS hl => ?_)
  have hl : lv_has ls 2 [(0, .ref (a 0)), (1, .int l1)] := hl
  unfold f_Wk_has at hf
  refine lv_iload_n hx hb d_Wk_has_0 rfl (lv_at hl 1 rfl) ?_
  refine lv_if_lt (tgt := 22) hx hb d_Wk_has_1 (by decide) (fun c_1 => ?_) (fun c_1 => ?_)
  · replace hf := ob_et c_1 hf
    refine lv_iconst (v := (0 : Int32)) hx hb d_Wk_has_22 (by decide) ?_
    cases hf
    exact kZ hx hb hr hlk hP hD hS (Or.inl rfl) d_Wk_has_23
  · replace hf := ob_ef c_1 hf
    refine lv_iload_n hx hb d_Wk_has_4 rfl (lv_at hl 1 rfl) ?_
    refine lv_aload_n hx hb d_Wk_has_5 rfl (lv_at hl 0 rfl) ?_
    refine va_get (D := G.1) (ci := 7) (v := .int v.2.2.2.2.2) (C := R_Wk) (T := T_Wk) (N := 6) hx hb hts in_Wk hown hK hP 0 rfl rfl 5 (by decide) (hts _ k_99) (fun _ h9 => h9) rfl d_Wk_has_6 ?_
    refine lv_icmp_ge (tgt := 22) hx hb d_Wk_has_9 (by decide) (fun c_9 => ?_) (fun c_9 => ?_)
    · replace hf := ob_et c_9 hf
      refine lv_iconst (v := (0 : Int32)) hx hb d_Wk_has_22 (by decide) ?_
      cases hf
      exact kZ hx hb hr hlk hP hD hS (Or.inl rfl) d_Wk_has_23
    · replace hf := ob_ef c_9 hf
      refine lv_iload_n hx hb d_Wk_has_12 rfl (lv_at hl 1 rfl) ?_
      refine lv_bipush (v := (16 : Int32)) hx hb d_Wk_has_13 (by decide) ?_
      refine lv_icmp_ge (tgt := 22) hx hb d_Wk_has_15 (by decide) (fun c_15 => ?_) (fun c_15 => ?_)
      · replace hf := ob_et c_15 hf
        refine lv_iconst (v := (0 : Int32)) hx hb d_Wk_has_22 (by decide) ?_
        cases hf
        exact kZ hx hb hr hlk hP hD hS (Or.inl rfl) d_Wk_has_23
      · replace hf := ob_ef c_15 hf
        refine lv_iconst (v := (1 : Int32)) hx hb d_Wk_has_18 (by decide) ?_
        refine lv_goto (tgt := 23) hx hb d_Wk_has_19 (by decide) ?_
        cases hf
        exact kZ hx hb hr hlk hP hD hS (Or.inr rfl) d_Wk_has_23
set_option maxHeartbeats 4000000 in
set_option maxRecDepth 100000 in
theorem t_Wk_isFull (l : Launch) (G : GG) (a : Nat → Nat) (v : V_Wk) (q : Int32) (hf : f_Wk_isFull v = some q) : MI l G y_Wk_isFull c_Wk_isFull 1 (some .boolean) (rmk 0 0) (W_Wk G a v) [.ref (a 0)] (W_Wk G a v) (q) := by
  refine ofI "FloodDiary$Works" (by decide +kernel) rfl (Nat.le_of_ble_eq_true rfl) (fun p e s m args below meth c A ls hx hb hr hml hown hts hlk hK hN hA hP hD hS hl => ?_)
  have hl : lv_has ls 1 [(0, .ref (a 0))] := hl
  unfold f_Wk_isFull at hf
  refine lv_aload_n hx hb d_Wk_isFull_0 rfl (lv_at hl 0 rfl) ?_
  refine va_get (D := G.1) (ci := 7) (v := .int v.2.2.2.2.2) (C := R_Wk) (T := T_Wk) (N := 6) hx hb hts in_Wk hown hK hP 0 rfl rfl 5 (by decide) (hts _ k_99) (fun _ h9 => h9) rfl d_Wk_isFull_1 ?_
  refine lv_bipush (v := (16 : Int32)) hx hb d_Wk_isFull_4 (by decide) ?_
  refine lv_icmp_lt (tgt := 13) hx hb d_Wk_isFull_6 (by decide) (fun c_6 => ?_) (fun c_6 => ?_)
  · replace hf := ob_et c_6 hf
    refine lv_iconst (v := (0 : Int32)) hx hb d_Wk_isFull_13 (by decide) ?_
    cases hf
    exact kZ hx hb hr hlk hP hD hS (Or.inl rfl) d_Wk_isFull_14
  · replace hf := ob_ef c_6 hf
    refine lv_iconst (v := (1 : Int32)) hx hb d_Wk_isFull_9 (by decide) ?_
    refine lv_goto (tgt := 14) hx hb d_Wk_isFull_10 (by decide) ?_
    cases hf
    exact kZ hx hb hr hlk hP hD hS (Or.inr rfl) d_Wk_isFull_14
set_option maxHeartbeats 4000000 in
set_option maxRecDepth 100000 in
theorem t_Wk_isOpen (l : Launch) (G : GG) (a : Nat → Nat) (l1 : Int32) (v : V_Wk) (q : Int32) (hf : f_Wk_isOpen l1 v = some q) : MI l G y_Wk_isOpen c_Wk_isOpen 2 (some .boolean) (rmk 1 21) (W_Wk G a v) [.ref (a 0), .int l1] (W_Wk G a v) (q) := by
  refine ofI "FloodDiary$Works" (by decide +kernel) rfl (Nat.le_of_ble_eq_true rfl) (fun p e s m args below meth c A ls hx hb hr hml hown hts hlk hK hN hA hP hD hS hl => ?_)
  have hl : lv_has ls 2 [(0, .ref (a 0)), (1, .int l1)] := hl
  unfold f_Wk_isOpen at hf
  refine lv_aload_n hx hb d_Wk_isOpen_0 rfl (lv_at hl 0 rfl) ?_
  refine lv_iload_n hx hb d_Wk_isOpen_1 rfl (lv_at hl 1 rfl) ?_
  obtain ⟨q_2, hc_2, hf⟩ := oc_e hf
  refine kcV (cc := c_Wk_isOpen) (own := "FloodDiary$Works") (index := 37) (wc := W_Wk G a v) (wr := ([] : va_W)) (wc' := W_Wk G a v) (ws' := W_Wk G a v) hx hb hml hown hts hK hN hA hP hD hS (t_Wk_has l G a l1 v q_2 hc_2) m_Wk_has k_286 ⟨Nat.le_of_ble_eq_true rfl, Nat.le_of_ble_eq_true rfl⟩ (pm_0 (W_Wk G a v)) (pm_0 (W_Wk G a v)).symm 7 0 rfl rfl rfl rfl rfl (Nat.le_of_ble_eq_true rfl) hl.1 d_Wk_isOpen_2 ⟨Nat.zero_le _, Nat.zero_le _⟩ (fun H locs hP hD hS => ?_)
  refine lv_if_eq (tgt := 21) hx hb d_Wk_isOpen_5 (by decide) (fun c_5 => ?_) (fun c_5 => ?_)
  · replace hf := ob_et c_5 hf
    refine lv_iconst (v := (0 : Int32)) hx hb d_Wk_isOpen_21 (by decide) ?_
    cases hf
    exact kZ hx hb hr hlk hP hD hS (Or.inl rfl) d_Wk_isOpen_22
  · replace hf := ob_ef c_5 hf
    refine lv_aload_n hx hb d_Wk_isOpen_8 rfl (lv_at hl 0 rfl) ?_
    refine va_get (D := G.1) (ci := 7) (v := .ref (a 1)) (C := R_Wk) (T := T_Wk) (N := 6) hx hb hts in_Wk hown hK hP 0 rfl rfl 0 (by decide) (hts _ k_94) (fun _ h9 => h9) rfl d_Wk_isOpen_9 ?_
    refine lv_iload_n hx hb d_Wk_isOpen_12 rfl (lv_at hl 1 rfl) ?_
    obtain ⟨g_13, hf⟩ := og_e hf
    refine va_iald hx hb hK hP 1 0 rfl rfl g_13 d_Wk_isOpen_13 ?_
    refine lv_if_ne (tgt := 21) hx hb d_Wk_isOpen_14 (by decide) (fun c_14 => ?_) (fun c_14 => ?_)
    · replace hf := ob_ef c_14 hf
      refine lv_iconst (v := (0 : Int32)) hx hb d_Wk_isOpen_21 (by decide) ?_
      cases hf
      exact kZ hx hb hr hlk hP hD hS (Or.inl rfl) d_Wk_isOpen_22
    · replace hf := ob_et c_14 hf
      refine lv_iconst (v := (1 : Int32)) hx hb d_Wk_isOpen_17 (by decide) ?_
      refine lv_goto (tgt := 22) hx hb d_Wk_isOpen_18 (by decide) ?_
      cases hf
      exact kZ hx hb hr hlk hP hD hS (Or.inr rfl) d_Wk_isOpen_22
set_option maxHeartbeats 4000000 in
set_option maxRecDepth 100000 in
theorem t_Wk_lastOf (l : Launch) (G : GG) (a : Nat → Nat) (l1 : Int32) (v : V_Wk) (q : Int32) (hf : f_Wk_lastOf l1 v = some q) : MI l G y_Wk_lastOf c_Wk_lastOf 2 (some .int) (rmk 1 21) (W_Wk G a v) [.ref (a 0), .int l1] (W_Wk G a v) (q) := by
  refine ofI "FloodDiary$Works" (by decide +kernel) rfl (Nat.le_of_ble_eq_true rfl) (fun p e s m args below meth c A ls hx hb hr hml hown hts hlk hK hN hA hP hD hS hl => ?_)
  have hl : lv_has ls 2 [(0, .ref (a 0)), (1, .int l1)] := hl
  unfold f_Wk_lastOf at hf
  refine lv_aload_n hx hb d_Wk_lastOf_0 rfl (lv_at hl 0 rfl) ?_
  refine lv_iload_n hx hb d_Wk_lastOf_1 rfl (lv_at hl 1 rfl) ?_
  obtain ⟨q_2, hc_2, hf⟩ := oc_e hf
  refine kcV (cc := c_Wk_lastOf) (own := "FloodDiary$Works") (index := 37) (wc := W_Wk G a v) (wr := ([] : va_W)) (wc' := W_Wk G a v) (ws' := W_Wk G a v) hx hb hml hown hts hK hN hA hP hD hS (t_Wk_has l G a l1 v q_2 hc_2) m_Wk_has k_286 ⟨Nat.le_of_ble_eq_true rfl, Nat.le_of_ble_eq_true rfl⟩ (pm_0 (W_Wk G a v)) (pm_0 (W_Wk G a v)).symm 7 0 rfl rfl rfl rfl rfl (Nat.le_of_ble_eq_true rfl) hl.1 d_Wk_lastOf_2 ⟨Nat.zero_le _, Nat.zero_le _⟩ (fun H locs hP hD hS => ?_)
  refine lv_if_eq (tgt := 17) hx hb d_Wk_lastOf_5 (by decide) (fun c_5 => ?_) (fun c_5 => ?_)
  · replace hf := ob_et c_5 hf
    refine lv_iconst (v := (0 : Int32)) hx hb d_Wk_lastOf_17 (by decide) ?_
    cases hf
    exact kI hx hb hr hlk hP hD hS d_Wk_lastOf_18
  · replace hf := ob_ef c_5 hf
    refine lv_aload_n hx hb d_Wk_lastOf_8 rfl (lv_at hl 0 rfl) ?_
    refine va_get (D := G.1) (ci := 7) (v := .ref (a 2)) (C := R_Wk) (T := T_Wk) (N := 6) hx hb hts in_Wk hown hK hP 0 rfl rfl 1 (by decide) (hts _ k_95) (fun _ h9 => h9) rfl d_Wk_lastOf_9 ?_
    refine lv_iload_n hx hb d_Wk_lastOf_12 rfl (lv_at hl 1 rfl) ?_
    obtain ⟨g_13, hf⟩ := og_e hf
    refine va_iald hx hb hK hP 2 0 rfl rfl g_13 d_Wk_lastOf_13 ?_
    refine lv_goto (tgt := 18) hx hb d_Wk_lastOf_14 (by decide) ?_
    cases hf
    exact kI hx hb hr hlk hP hD hS d_Wk_lastOf_18
set_option maxHeartbeats 4000000 in
set_option maxRecDepth 100000 in
theorem t_Wk_goOnOf (l : Launch) (G : GG) (a : Nat → Nat) (l1 : Int32) (v : V_Wk) (q : Int32) (hf : f_Wk_goOnOf l1 v = some q) : MI l G y_Wk_goOnOf c_Wk_goOnOf 2 (some .int) (rmk 1 21) (W_Wk G a v) [.ref (a 0), .int l1] (W_Wk G a v) (q) := by
  refine ofI "FloodDiary$Works" (by decide +kernel) rfl (Nat.le_of_ble_eq_true rfl) (fun p e s m args below meth c A ls hx hb hr hml hown hts hlk hK hN hA hP hD hS hl => ?_)
  have hl : lv_has ls 2 [(0, .ref (a 0)), (1, .int l1)] := hl
  unfold f_Wk_goOnOf at hf
  refine lv_aload_n hx hb d_Wk_goOnOf_0 rfl (lv_at hl 0 rfl) ?_
  refine lv_iload_n hx hb d_Wk_goOnOf_1 rfl (lv_at hl 1 rfl) ?_
  obtain ⟨q_2, hc_2, hf⟩ := oc_e hf
  refine kcV (cc := c_Wk_goOnOf) (own := "FloodDiary$Works") (index := 37) (wc := W_Wk G a v) (wr := ([] : va_W)) (wc' := W_Wk G a v) (ws' := W_Wk G a v) hx hb hml hown hts hK hN hA hP hD hS (t_Wk_has l G a l1 v q_2 hc_2) m_Wk_has k_286 ⟨Nat.le_of_ble_eq_true rfl, Nat.le_of_ble_eq_true rfl⟩ (pm_0 (W_Wk G a v)) (pm_0 (W_Wk G a v)).symm 7 0 rfl rfl rfl rfl rfl (Nat.le_of_ble_eq_true rfl) hl.1 d_Wk_goOnOf_2 ⟨Nat.zero_le _, Nat.zero_le _⟩ (fun H locs hP hD hS => ?_)
  refine lv_if_eq (tgt := 17) hx hb d_Wk_goOnOf_5 (by decide) (fun c_5 => ?_) (fun c_5 => ?_)
  · replace hf := ob_et c_5 hf
    refine lv_iconst (v := (0 : Int32)) hx hb d_Wk_goOnOf_17 (by decide) ?_
    cases hf
    exact kI hx hb hr hlk hP hD hS d_Wk_goOnOf_18
  · replace hf := ob_ef c_5 hf
    refine lv_aload_n hx hb d_Wk_goOnOf_8 rfl (lv_at hl 0 rfl) ?_
    refine va_get (D := G.1) (ci := 7) (v := .ref (a 5)) (C := R_Wk) (T := T_Wk) (N := 6) hx hb hts in_Wk hown hK hP 0 rfl rfl 4 (by decide) (hts _ k_98) (fun _ h9 => h9) rfl d_Wk_goOnOf_9 ?_
    refine lv_iload_n hx hb d_Wk_goOnOf_12 rfl (lv_at hl 1 rfl) ?_
    obtain ⟨g_13, hf⟩ := og_e hf
    refine va_iald hx hb hK hP 5 0 rfl rfl g_13 d_Wk_goOnOf_13 ?_
    refine lv_goto (tgt := 18) hx hb d_Wk_goOnOf_14 (by decide) ?_
    cases hf
    exact kI hx hb hr hlk hP hD hS d_Wk_goOnOf_18
set_option maxHeartbeats 4000000 in
set_option maxRecDepth 100000 in
theorem t_Wk_holds (l : Launch) (G : GG) (a : Nat → Nat) (l1 : Int32) (l2 : Int32) (v : V_Wk) (q : Int32) (hf : f_Wk_holds l1 l2 v = some q) : MI l G y_Wk_holds c_Wk_holds 3 (some .boolean) (rmk 2 42) (W_Wk G a v) [.ref (a 0), .int l1, .int l2] (W_Wk G a v) (q) := by
  refine ofI "FloodDiary$Works" (by decide +kernel) rfl (Nat.le_of_ble_eq_true rfl) (fun p e s m args below meth c A ls hx hb hr hml hown hts hlk hK hN hA hP hD hS hl => ?_)
  have hl : lv_has ls 3 [(0, .ref (a 0)), (1, .int l1), (2, .int l2)] := hl
  unfold f_Wk_holds at hf
  refine lv_aload_n hx hb d_Wk_holds_0 rfl (lv_at hl 0 rfl) ?_
  refine lv_iload_n hx hb d_Wk_holds_1 rfl (lv_at hl 1 rfl) ?_
  obtain ⟨q_2, hc_2, hf⟩ := oc_e hf
  refine kcV (cc := c_Wk_holds) (own := "FloodDiary$Works") (index := 41) (wc := W_Wk G a v) (wr := ([] : va_W)) (wc' := W_Wk G a v) (ws' := W_Wk G a v) hx hb hml hown hts hK hN hA hP hD hS (t_Wk_isOpen l G a l1 v q_2 hc_2) m_Wk_isOpen k_322 ⟨Nat.le_of_ble_eq_true rfl, Nat.le_of_ble_eq_true rfl⟩ (pm_0 (W_Wk G a v)) (pm_0 (W_Wk G a v)).symm 7 0 rfl rfl rfl rfl rfl (Nat.le_of_ble_eq_true rfl) hl.1 d_Wk_holds_2 ⟨Nat.zero_le _, Nat.zero_le _⟩ (fun H locs hP hD hS => ?_)
  refine lv_if_eq (tgt := 33) hx hb d_Wk_holds_5 (by decide) (fun c_5 => ?_) (fun c_5 => ?_)
  · replace hf := ob_et c_5 hf
    refine lv_iconst (v := (0 : Int32)) hx hb d_Wk_holds_33 (by decide) ?_
    cases hf
    exact kZ hx hb hr hlk hP hD hS (Or.inl rfl) d_Wk_holds_34
  · replace hf := ob_ef c_5 hf
    refine lv_iload_n hx hb d_Wk_holds_8 rfl (lv_at hl 2 rfl) ?_
    obtain ⟨q_9, hc_9, hf⟩ := oc_e hf
    refine kcSN (cc := c_Wk_holds) (own := "FloodDiary$Works") (index := 44) (wc := ([] : va_W)) (wr := W_Wk G a v) (wc' := ([] : va_W)) (ws' := W_Wk G a v) hx hb hml hown hts hK hN hA hP hD hS (t_Fd_isPage l G l2 q_9 hc_9) m_Fd_isPage nsM_9 ⟨Nat.le_of_ble_eq_true rfl, Nat.le_of_ble_eq_true rfl⟩ (List.Perm.refl _) (List.Perm.refl _) rfl rfl (Nat.le_of_ble_eq_true rfl) hl.1 d_Wk_holds_9 ⟨Nat.zero_le _, Nat.zero_le _⟩ (fun H locs hP hD hS => ?_)
    refine lv_if_eq (tgt := 33) hx hb d_Wk_holds_12 (by decide) (fun c_12 => ?_) (fun c_12 => ?_)
    · replace hf := ob_et c_12 hf
      refine lv_iconst (v := (0 : Int32)) hx hb d_Wk_holds_33 (by decide) ?_
      cases hf
      exact kZ hx hb hr hlk hP hD hS (Or.inl rfl) d_Wk_holds_34
    · replace hf := ob_ef c_12 hf
      refine lv_aload_n hx hb d_Wk_holds_15 rfl (lv_at hl 0 rfl) ?_
      refine va_get (D := G.1) (ci := 7) (v := .ref (a 4)) (C := R_Wk) (T := T_Wk) (N := 6) hx hb hts in_Wk hown hK hP 0 rfl rfl 3 (by decide) (hts _ k_97) (fun _ h9 => h9) rfl d_Wk_holds_16 ?_
      refine lv_iload_n hx hb d_Wk_holds_19 rfl (lv_at hl 1 rfl) ?_
      obtain ⟨g_20, hf⟩ := og_e hf
      refine va_iald hx hb hK hP 4 0 rfl rfl g_20 d_Wk_holds_20 ?_
      refine lv_iload_n hx hb d_Wk_holds_21 rfl (lv_at hl 2 rfl) ?_
      refine lv_ishr hx hb d_Wk_holds_22 ?_
      refine lv_iconst (v := (1 : Int32)) hx hb d_Wk_holds_23 (by decide) ?_
      refine lv_iand hx hb d_Wk_holds_24 ?_
      refine lv_iconst (v := (1 : Int32)) hx hb d_Wk_holds_25 (by decide) ?_
      refine lv_icmp_ne (tgt := 33) hx hb d_Wk_holds_26 (by decide) (fun c_26 => ?_) (fun c_26 => ?_)
      · replace hf := ob_ef c_26 hf
        refine lv_iconst (v := (0 : Int32)) hx hb d_Wk_holds_33 (by decide) ?_
        cases hf
        exact kZ hx hb hr hlk hP hD hS (Or.inl rfl) d_Wk_holds_34
      · replace hf := ob_et c_26 hf
        refine lv_iconst (v := (1 : Int32)) hx hb d_Wk_holds_29 (by decide) ?_
        refine lv_goto (tgt := 34) hx hb d_Wk_holds_30 (by decide) ?_
        cases hf
        exact kZ hx hb hr hlk hP hD hS (Or.inr rfl) d_Wk_holds_34
set_option maxHeartbeats 4000000 in
set_option maxRecDepth 100000 in
theorem t_Wk_holderOf (l : Launch) (G : GG) (a : Nat → Nat) (l1 : Int32) (v : V_Wk) (q : Int32) (hf : f_Wk_holderOf l1 v = some q) : MI l G y_Wk_holderOf c_Wk_holderOf 3 (some .int) (rmk 3 64) (W_Wk G a v) [.ref (a 0), .int l1] (W_Wk G a v) (q) := by
  refine ofI "FloodDiary$Works" (by decide +kernel) rfl (Nat.le_of_ble_eq_true rfl) (fun p e s m args below meth c A ls hx hb hr hml hown hts hlk hK hN hA hP hD hS hl => ?_)
  have hl : lv_has ls 3 [(0, .ref (a 0)), (1, .int l1)] := hl
  have J_2 : ∀ (n_2 : Nat) (l1 : Int32) (l2 : Int32) (v : V_Wk) (H : Heap) (locs : List Loc) (ls : Array Slot), va_P G.1 vwCl (W_Wk G a v) H → va_D A (W_Wk G a v) → va_S A s.heap H locs → lv_has ls 3 [(0, .ref (a 0)), (1, .int l1), (2, .int l2)] → f_Wk_holderOf_2 n_2 l1 l2 v = some q → W p l e (rmk 3 64) s m args below meth c H locs 0 0 (MQ below (qI G A (W_Wk G a v) (q)) args s 0 0 A) (F0 m 2 ls []) := by
    intro n_2
    induction n_2 with
    | zero => intro l1 l2 v H locs ls hP hD hS hl hf; exact absurd hf (by unfold f_Wk_holderOf_2; exact fun z => by cases z)
    | succ n_2 ih_2 =>
      intro l1 l2 v H locs ls hP hD hS hl hf
      rw [f_Wk_holderOf_2] at hf
      refine lv_iload_n hx hb d_Wk_holderOf_2 rfl (lv_at hl 2 rfl) ?_
      refine lv_aload_n hx hb d_Wk_holderOf_3 rfl (lv_at hl 0 rfl) ?_
      refine va_get (D := G.1) (ci := 7) (v := .int v.2.2.2.2.2) (C := R_Wk) (T := T_Wk) (N := 6) hx hb hts in_Wk hown hK hP 0 rfl rfl 5 (by decide) (hts _ k_99) (fun _ h9 => h9) rfl d_Wk_holderOf_4 ?_
      refine lv_icmp_ge (tgt := 27) hx hb d_Wk_holderOf_7 (by decide) (fun c_7 => ?_) (fun c_7 => ?_)
      · replace hf := ob_et c_7 hf
        refine lv_bipush (v := (-6 : Int32)) hx hb d_Wk_holderOf_27 (by decide) ?_
        cases hf
        exact kI hx hb hr hlk hP hD hS d_Wk_holderOf_29
      · replace hf := ob_ef c_7 hf
        refine lv_aload_n hx hb d_Wk_holderOf_10 rfl (lv_at hl 0 rfl) ?_
        refine lv_iload_n hx hb d_Wk_holderOf_11 rfl (lv_at hl 2 rfl) ?_
        refine lv_iload_n hx hb d_Wk_holderOf_12 rfl (lv_at hl 1 rfl) ?_
        obtain ⟨q_13, hc_13, hf⟩ := oc_e hf
        refine kcV (cc := c_Wk_holderOf) (own := "FloodDiary$Works") (index := 47) (wc := W_Wk G a v) (wr := ([] : va_W)) (wc' := W_Wk G a v) (ws' := W_Wk G a v) hx hb hml hown hts hK hN hA hP hD hS (t_Wk_holds l G a l2 l1 v q_13 hc_13) m_Wk_holds k_318 ⟨Nat.le_of_ble_eq_true rfl, Nat.le_of_ble_eq_true rfl⟩ (pm_0 (W_Wk G a v)) (pm_0 (W_Wk G a v)).symm 7 0 rfl rfl rfl rfl rfl (Nat.le_of_ble_eq_true rfl) hl.1 d_Wk_holderOf_13 ⟨Nat.zero_le _, Nat.zero_le _⟩ (fun H locs hP hD hS => ?_)
        refine lv_if_eq (tgt := 21) hx hb d_Wk_holderOf_16 (by decide) (fun c_16 => ?_) (fun c_16 => ?_)
        · replace hf := ob_et c_16 hf
          refine lv_iinc (v := (l2 + (1 : Int32))) (lv' := [(2, .int (l2 + (1 : Int32))), (0, .ref (a 0)), (1, .int l1)]) hx hb d_Wk_holderOf_21 hl (k := 2) rfl rfl (by decide) rfl (fun ls hl => ?_)
          refine lv_goto (tgt := 2) hx hb d_Wk_holderOf_24 (by decide) ?_
          exact ih_2 l1 (l2 + (1 : Int32)) v _ _ ls hP hD hS (lv_sub hl [1, 2, 0] rfl) hf
        · replace hf := ob_ef c_16 hf
          refine lv_iload_n hx hb d_Wk_holderOf_19 rfl (lv_at hl 2 rfl) ?_
          cases hf
          exact kI hx hb hr hlk hP hD hS d_Wk_holderOf_20
  unfold f_Wk_holderOf at hf
  refine lv_iconst (v := (0 : Int32)) hx hb d_Wk_holderOf_0 (by decide) ?_
  refine lv_istore_n (lv' := [(2, .int (0 : Int32)), (0, .ref (a 0)), (1, .int l1)]) hx hb d_Wk_holderOf_1 rfl hl (by decide) rfl (fun ls hl => ?_)
  exact J_2 FU l1 (0 : Int32) v _ _ ls hP hD hS (lv_sub hl [1, 2, 0] rfl) hf
set_option maxHeartbeats 4000000 in
set_option maxRecDepth 100000 in
theorem t_Wk_openSet (l : Launch) (G : GG) (a : Nat → Nat) (v : V_Wk) (q : Int32) (hf : f_Wk_openSet v = some q) : MI l G y_Wk_openSet c_Wk_openSet 3 (some .int) (rmk 2 42) (W_Wk G a v) [.ref (a 0)] (W_Wk G a v) (q) := by
  refine ofI "FloodDiary$Works" (by decide +kernel) rfl (Nat.le_of_ble_eq_true rfl) (fun p e s m args below meth c A ls hx hb hr hml hown hts hlk hK hN hA hP hD hS hl => ?_)
  have hl : lv_has ls 3 [(0, .ref (a 0))] := hl
  have J_4 : ∀ (n_4 : Nat) (l1 : Int32) (l2 : Int32) (v : V_Wk) (H : Heap) (locs : List Loc) (ls : Array Slot), va_P G.1 vwCl (W_Wk G a v) H → va_D A (W_Wk G a v) → va_S A s.heap H locs → lv_has ls 3 [(0, .ref (a 0)), (1, .int l1), (2, .int l2)] → f_Wk_openSet_4 n_4 l1 l2 v = some q → W p l e (rmk 2 42) s m args below meth c H locs 0 0 (MQ below (qI G A (W_Wk G a v) (q)) args s 0 0 A) (F0 m 4 ls []) := by
    intro n_4
    induction n_4 with
    | zero => intro l1 l2 v H locs ls hP hD hS hl hf; exact absurd hf (by unfold f_Wk_openSet_4; exact fun z => by cases z)
    | succ n_4 ih_4 =>
      intro l1 l2 v H locs ls hP hD hS hl hf
      rw [f_Wk_openSet_4] at hf
      refine lv_iload_n hx hb d_Wk_openSet_4 rfl (lv_at hl 2 rfl) ?_
      refine lv_aload_n hx hb d_Wk_openSet_5 rfl (lv_at hl 0 rfl) ?_
      refine va_get (D := G.1) (ci := 7) (v := .int v.2.2.2.2.2) (C := R_Wk) (T := T_Wk) (N := 6) hx hb hts in_Wk hown hK hP 0 rfl rfl 5 (by decide) (hts _ k_99) (fun _ h9 => h9) rfl d_Wk_openSet_6 ?_
      refine lv_icmp_ge (tgt := 32) hx hb d_Wk_openSet_9 (by decide) (fun c_9 => ?_) (fun c_9 => ?_)
      · replace hf := ob_et c_9 hf
        refine lv_iload_n hx hb d_Wk_openSet_32 rfl (lv_at hl 1 rfl) ?_
        cases hf
        exact kI hx hb hr hlk hP hD hS d_Wk_openSet_33
      · replace hf := ob_ef c_9 hf
        refine lv_aload_n hx hb d_Wk_openSet_12 rfl (lv_at hl 0 rfl) ?_
        refine lv_iload_n hx hb d_Wk_openSet_13 rfl (lv_at hl 2 rfl) ?_
        obtain ⟨q_14, hc_14, hf⟩ := oc_e hf
        refine kcV (cc := c_Wk_openSet) (own := "FloodDiary$Works") (index := 41) (wc := W_Wk G a v) (wr := ([] : va_W)) (wc' := W_Wk G a v) (ws' := W_Wk G a v) hx hb hml hown hts hK hN hA hP hD hS (t_Wk_isOpen l G a l2 v q_14 hc_14) m_Wk_isOpen k_322 ⟨Nat.le_of_ble_eq_true rfl, Nat.le_of_ble_eq_true rfl⟩ (pm_0 (W_Wk G a v)) (pm_0 (W_Wk G a v)).symm 7 0 rfl rfl rfl rfl rfl (Nat.le_of_ble_eq_true rfl) hl.1 d_Wk_openSet_14 ⟨Nat.zero_le _, Nat.zero_le _⟩ (fun H locs hP hD hS => ?_)
        refine lv_if_eq (tgt := 26) hx hb d_Wk_openSet_17 (by decide) (fun c_17 => ?_) (fun c_17 => ?_)
        · replace hf := ob_et c_17 hf
          refine lv_iinc (v := (l2 + (1 : Int32))) (lv' := [(2, .int (l2 + (1 : Int32))), (0, .ref (a 0)), (1, .int l1)]) hx hb d_Wk_openSet_26 hl (k := 2) rfl rfl (by decide) rfl (fun ls hl => ?_)
          refine lv_goto (tgt := 4) hx hb d_Wk_openSet_29 (by decide) ?_
          exact ih_4 l1 (l2 + (1 : Int32)) v _ _ ls hP hD hS (lv_sub hl [1, 2, 0] rfl) hf
        · replace hf := ob_ef c_17 hf
          refine lv_iload_n hx hb d_Wk_openSet_20 rfl (lv_at hl 1 rfl) ?_
          refine lv_iconst (v := (1 : Int32)) hx hb d_Wk_openSet_21 (by decide) ?_
          refine lv_iload_n hx hb d_Wk_openSet_22 rfl (lv_at hl 2 rfl) ?_
          refine lv_ishl hx hb d_Wk_openSet_23 ?_
          refine lv_ior hx hb d_Wk_openSet_24 ?_
          refine lv_istore_n (lv' := [(1, .int (l1 ||| ((1 : Int32) <<< (l2 &&& 31)))), (0, .ref (a 0)), (2, .int l2)]) hx hb d_Wk_openSet_25 rfl hl (by decide) rfl (fun ls hl => ?_)
          refine lv_iinc (v := (l2 + (1 : Int32))) (lv' := [(2, .int (l2 + (1 : Int32))), (1, .int (l1 ||| ((1 : Int32) <<< (l2 &&& 31)))), (0, .ref (a 0))]) hx hb d_Wk_openSet_26 hl (k := 2) rfl rfl (by decide) rfl (fun ls hl => ?_)
          refine lv_goto (tgt := 4) hx hb d_Wk_openSet_29 (by decide) ?_
          exact ih_4 (l1 ||| ((1 : Int32) <<< (l2 &&& 31))) (l2 + (1 : Int32)) v _ _ ls hP hD hS (lv_sub hl [2, 1, 0] rfl) hf
  unfold f_Wk_openSet at hf
  refine lv_iconst (v := (0 : Int32)) hx hb d_Wk_openSet_0 (by decide) ?_
  refine lv_istore_n (lv' := [(1, .int (0 : Int32)), (0, .ref (a 0))]) hx hb d_Wk_openSet_1 rfl hl (by decide) rfl (fun ls hl => ?_)
  refine lv_iconst (v := (0 : Int32)) hx hb d_Wk_openSet_2 (by decide) ?_
  refine lv_istore_n (lv' := [(2, .int (0 : Int32)), (1, .int (0 : Int32)), (0, .ref (a 0))]) hx hb d_Wk_openSet_3 rfl hl (by decide) rfl (fun ls hl => ?_)
  exact J_4 FU (0 : Int32) (0 : Int32) v _ _ ls hP hD hS (lv_sub hl [2, 1, 0] rfl) hf
set_option maxHeartbeats 4000000 in
set_option maxRecDepth 100000 in
theorem t_Wk_nextToTakeBack (l : Launch) (G : GG) (a : Nat → Nat) (v : V_Wk) (q : Int32) (hf : f_Wk_nextToTakeBack v = some q) : MI l G y_Wk_nextToTakeBack c_Wk_nextToTakeBack 3 (some .int) (rmk 2 42) (W_Wk G a v) [.ref (a 0)] (W_Wk G a v) (q) := by
  refine ofI "FloodDiary$Works" (by decide +kernel) rfl (Nat.le_of_ble_eq_true rfl) (fun p e s m args below meth c A ls hx hb hr hml hown hts hlk hK hN hA hP hD hS hl => ?_)
  have hl : lv_has ls 3 [(0, .ref (a 0))] := hl
  have J_5 : ∀ (n_5 : Nat) (l1 : Int32) (l2 : Int32) (v : V_Wk) (H : Heap) (locs : List Loc) (ls : Array Slot), va_P G.1 vwCl (W_Wk G a v) H → va_D A (W_Wk G a v) → va_S A s.heap H locs → lv_has ls 3 [(0, .ref (a 0)), (1, .int l1), (2, .int l2)] → f_Wk_nextToTakeBack_5 n_5 l1 l2 v = some q → W p l e (rmk 2 42) s m args below meth c H locs 0 0 (MQ below (qI G A (W_Wk G a v) (q)) args s 0 0 A) (F0 m 5 ls []) := by
    intro n_5
    induction n_5 with
    | zero => intro l1 l2 v H locs ls hP hD hS hl hf; exact absurd hf (by unfold f_Wk_nextToTakeBack_5; exact fun z => by cases z)
    | succ n_5 ih_5 =>
      intro l1 l2 v H locs ls hP hD hS hl hf
      rw [f_Wk_nextToTakeBack_5] at hf
      refine lv_iload_n hx hb d_Wk_nextToTakeBack_5 rfl (lv_at hl 2 rfl) ?_
      refine lv_aload_n hx hb d_Wk_nextToTakeBack_6 rfl (lv_at hl 0 rfl) ?_
      refine va_get (D := G.1) (ci := 7) (v := .int v.2.2.2.2.2) (C := R_Wk) (T := T_Wk) (N := 6) hx hb hts in_Wk hown hK hP 0 rfl rfl 5 (by decide) (hts _ k_99) (fun _ h9 => h9) rfl d_Wk_nextToTakeBack_7 ?_
      refine lv_icmp_ge (tgt := 42) hx hb d_Wk_nextToTakeBack_10 (by decide) (fun c_10 => ?_) (fun c_10 => ?_)
      · replace hf := ob_et c_10 hf
        refine lv_iload_n hx hb d_Wk_nextToTakeBack_42 rfl (lv_at hl 1 rfl) ?_
        cases hf
        exact kI hx hb hr hlk hP hD hS d_Wk_nextToTakeBack_43
      · replace hf := ob_ef c_10 hf
        refine lv_aload_n hx hb d_Wk_nextToTakeBack_13 rfl (lv_at hl 0 rfl) ?_
        refine lv_iload_n hx hb d_Wk_nextToTakeBack_14 rfl (lv_at hl 2 rfl) ?_
        obtain ⟨q_15, hc_15, hf⟩ := oc_e hf
        refine kcV (cc := c_Wk_nextToTakeBack) (own := "FloodDiary$Works") (index := 41) (wc := W_Wk G a v) (wr := ([] : va_W)) (wc' := W_Wk G a v) (ws' := W_Wk G a v) hx hb hml hown hts hK hN hA hP hD hS (t_Wk_isOpen l G a l2 v q_15 hc_15) m_Wk_isOpen k_322 ⟨Nat.le_of_ble_eq_true rfl, Nat.le_of_ble_eq_true rfl⟩ (pm_0 (W_Wk G a v)) (pm_0 (W_Wk G a v)).symm 7 0 rfl rfl rfl rfl rfl (Nat.le_of_ble_eq_true rfl) hl.1 d_Wk_nextToTakeBack_15 ⟨Nat.zero_le _, Nat.zero_le _⟩ (fun H locs hP hD hS => ?_)
        refine lv_if_eq (tgt := 36) hx hb d_Wk_nextToTakeBack_18 (by decide) (fun c_18 => ?_) (fun c_18 => ?_)
        · replace hf := ob_et c_18 hf
          refine lv_iinc (v := (l2 + (1 : Int32))) (lv' := [(2, .int (l2 + (1 : Int32))), (0, .ref (a 0)), (1, .int l1)]) hx hb d_Wk_nextToTakeBack_36 hl (k := 2) rfl rfl (by decide) rfl (fun ls hl => ?_)
          refine lv_goto (tgt := 5) hx hb d_Wk_nextToTakeBack_39 (by decide) ?_
          exact ih_5 l1 (l2 + (1 : Int32)) v _ _ ls hP hD hS (lv_sub hl [1, 2, 0] rfl) hf
        · replace hf := ob_ef c_18 hf
          refine lv_aload_n hx hb d_Wk_nextToTakeBack_21 rfl (lv_at hl 0 rfl) ?_
          refine lv_iload_n hx hb d_Wk_nextToTakeBack_22 rfl (lv_at hl 2 rfl) ?_
          obtain ⟨q_23, hc_23, hf⟩ := oc_e hf
          refine kcV (cc := c_Wk_nextToTakeBack) (own := "FloodDiary$Works") (index := 51) (wc := W_Wk G a v) (wr := ([] : va_W)) (wc' := W_Wk G a v) (ws' := W_Wk G a v) hx hb hml hown hts hK hN hA hP hD hS (t_Wk_goOnOf l G a l2 v q_23 hc_23) m_Wk_goOnOf k_509 ⟨Nat.le_of_ble_eq_true rfl, Nat.le_of_ble_eq_true rfl⟩ (pm_0 (W_Wk G a v)) (pm_0 (W_Wk G a v)).symm 7 0 rfl rfl rfl rfl rfl (Nat.le_of_ble_eq_true rfl) hl.1 d_Wk_nextToTakeBack_23 ⟨Nat.zero_le _, Nat.zero_le _⟩ (fun H locs hP hD hS => ?_)
          refine lv_aload_n hx hb d_Wk_nextToTakeBack_26 rfl (lv_at hl 0 rfl) ?_
          refine lv_iload_n hx hb d_Wk_nextToTakeBack_27 rfl (lv_at hl 1 rfl) ?_
          obtain ⟨q_28, hc_28, hf⟩ := oc_e hf
          refine kcV (cc := c_Wk_nextToTakeBack) (own := "FloodDiary$Works") (index := 51) (wc := W_Wk G a v) (wr := ([] : va_W)) (wc' := W_Wk G a v) (ws' := W_Wk G a v) hx hb hml hown hts hK hN hA hP hD hS (t_Wk_goOnOf l G a l1 v q_28 hc_28) m_Wk_goOnOf k_509 ⟨Nat.le_of_ble_eq_true rfl, Nat.le_of_ble_eq_true rfl⟩ (pm_0 (W_Wk G a v)) (pm_0 (W_Wk G a v)).symm 7 0 rfl rfl rfl rfl rfl (Nat.le_of_ble_eq_true rfl) hl.1 d_Wk_nextToTakeBack_28 ⟨Nat.zero_le _, Nat.zero_le _⟩ (fun H locs hP hD hS => ?_)
          refine lv_icmp_le (tgt := 36) hx hb d_Wk_nextToTakeBack_31 (by decide) (fun c_31 => ?_) (fun c_31 => ?_)
          · replace hf := ob_et c_31 hf
            refine lv_iinc (v := (l2 + (1 : Int32))) (lv' := [(2, .int (l2 + (1 : Int32))), (0, .ref (a 0)), (1, .int l1)]) hx hb d_Wk_nextToTakeBack_36 hl (k := 2) rfl rfl (by decide) rfl (fun ls hl => ?_)
            refine lv_goto (tgt := 5) hx hb d_Wk_nextToTakeBack_39 (by decide) ?_
            exact ih_5 l1 (l2 + (1 : Int32)) v _ _ ls hP hD hS (lv_sub hl [1, 2, 0] rfl) hf
          · replace hf := ob_ef c_31 hf
            refine lv_iload_n hx hb d_Wk_nextToTakeBack_34 rfl (lv_at hl 2 rfl) ?_
            refine lv_istore_n (lv' := [(1, .int l2), (0, .ref (a 0)), (2, .int l2)]) hx hb d_Wk_nextToTakeBack_35 rfl hl (by decide) rfl (fun ls hl => ?_)
            refine lv_iinc (v := (l2 + (1 : Int32))) (lv' := [(2, .int (l2 + (1 : Int32))), (1, .int l2), (0, .ref (a 0))]) hx hb d_Wk_nextToTakeBack_36 hl (k := 2) rfl rfl (by decide) rfl (fun ls hl => ?_)
            refine lv_goto (tgt := 5) hx hb d_Wk_nextToTakeBack_39 (by decide) ?_
            exact ih_5 l2 (l2 + (1 : Int32)) v _ _ ls hP hD hS (lv_sub hl [2, 1, 0] rfl) hf
  unfold f_Wk_nextToTakeBack at hf
  refine lv_bipush (v := (-6 : Int32)) hx hb d_Wk_nextToTakeBack_0 (by decide) ?_
  refine lv_istore_n (lv' := [(1, .int (-6 : Int32)), (0, .ref (a 0))]) hx hb d_Wk_nextToTakeBack_2 rfl hl (by decide) rfl (fun ls hl => ?_)
  refine lv_iconst (v := (0 : Int32)) hx hb d_Wk_nextToTakeBack_3 (by decide) ?_
  refine lv_istore_n (lv' := [(2, .int (0 : Int32)), (1, .int (-6 : Int32)), (0, .ref (a 0))]) hx hb d_Wk_nextToTakeBack_4 rfl hl (by decide) rfl (fun ls hl => ?_)
  exact J_5 FU (-6 : Int32) (0 : Int32) v _ _ ls hP hD hS (lv_sub hl [2, 1, 0] rfl) hf
set_option maxHeartbeats 4000000 in
set_option maxRecDepth 100000 in
theorem t_Wk_take (l : Launch) (G : GG) (a : Nat → Nat) (l1 : Int32) (l2 : Int32) (l3 : Int32) (l4 : Int32) (l5 : Int32) (v : V_Wk) (q : V_Wk) (hf : f_Wk_take l1 l2 l3 l4 l5 v = some q) : MV l G y_Wk_take c_Wk_take 7 (rmk 1 21) (W_Wk G a v) [.ref (a 0), .int l1, .int l2, .int l3, .int l4, .int l5] (W_Wk G a q) := by
  refine ofV "FloodDiary$Works" (by decide +kernel) rfl (Nat.le_of_ble_eq_true rfl) (fun p e s m args below meth c A ls hx hb hr hml hown hts hlk hK hN hA hP hD hS hl => ?_)
  have hl : lv_has ls 7 [(0, .ref (a 0)), (1, .int l1), (2, .int l2), (3, .int l3), (4, .int l4), (5, .int l5)] := hl
  have J_128 : ∀ (l2 : Int32) (l3 : Int32) (l4 : Int32) (l6 : Int32) (s0 : Int32) (s1 : Int32) (v : V_Wk) (H : Heap) (locs : List Loc) (ls : Array Slot), va_P G.1 vwCl (W_Wk G a v) H → va_D A (W_Wk G a v) → va_S A s.heap H locs → lv_has ls 7 [(0, .ref (a 0)), (2, .int l2), (3, .int l3), (4, .int l4), (6, .int l6)] → f_Wk_take_128 l2 l3 l4 l6 s0 s1 v = some q → W p l e (rmk 1 21) s m args below meth c H locs 0 0 (MQ below (qV G A (W_Wk G a q)) args s 0 0 A) (F0 m 128 ls [.int s0, .int s1, .ref (a 5)]) := by
    intro l2 l3 l4 l6 s0 s1 v H locs ls hP hD hS hl hf
    unfold f_Wk_take_128 at hf
    obtain ⟨g_128, hf⟩ := og_e hf
    obtain ⟨r_128, er_128, hf⟩ := nx_e hf
    refine va_iast hx hb hK hP hD hS 5 0 rfl rfl g_128 d_Wk_take_128 (fun H locs hP hD hS => ?_)
    rw [← er_128] at hP hD
    have hP : va_P G.1 vwCl (W_Wk G a (v.1, v.2.1, v.2.2.1, v.2.2.2.1, r_128, v.2.2.2.2.2)) H := hP
    have hD : va_D A (W_Wk G a (v.1, v.2.1, v.2.2.1, v.2.2.2.1, r_128, v.2.2.2.2.2)) := hD
    refine lv_iload hx hb d_Wk_take_129 (lv_at hl 4 rfl) ?_
    refine lv_if_eq (tgt := 144) hx hb d_Wk_take_131 (by decide) (fun c_131 => ?_) (fun c_131 => ?_)
    · replace hf := ob_et c_131 hf
      refine lv_iload_n hx hb d_Wk_take_144 rfl (lv_at hl 1 rfl) ?_
      refine lv_iconst (v := (1 : Int32)) hx hb d_Wk_take_145 (by decide) ?_
      refine lv_icmp_ne (tgt := 162) hx hb d_Wk_take_146 (by decide) (fun c_146 => ?_) (fun c_146 => ?_)
      · replace hf := ob_ef c_146 hf
        cases hf
        exact kV hx hb hr hlk hP hD hS d_Wk_take_162
      · replace hf := ob_et c_146 hf
        refine lv_aload_n hx hb d_Wk_take_149 rfl (lv_at hl 0 rfl) ?_
        refine va_get (D := G.1) (ci := 7) (v := .ref (a 4)) (C := R_Wk) (T := T_Wk) (N := 6) hx hb hts in_Wk hown hK hP 0 rfl rfl 3 (by decide) (hts _ k_97) (fun _ h9 => h9) rfl d_Wk_take_150 ?_
        refine lv_iload_n hx hb d_Wk_take_153 rfl (lv_at hl 2 rfl) ?_
        refine lv_dup2_11 hx hb d_Wk_take_154 rfl rfl ?_
        obtain ⟨g_155, hf⟩ := og_e hf
        refine va_iald hx hb hK hP 4 0 rfl rfl g_155 d_Wk_take_155 ?_
        refine lv_iconst (v := (1 : Int32)) hx hb d_Wk_take_156 (by decide) ?_
        refine lv_iload hx hb d_Wk_take_157 (lv_at hl 3 rfl) ?_
        refine lv_ishl hx hb d_Wk_take_159 ?_
        refine lv_ior hx hb d_Wk_take_160 ?_
        obtain ⟨g_161, hf⟩ := og_e hf
        obtain ⟨r_161, er_161, hf⟩ := nx_e hf
        refine va_iast hx hb hK hP hD hS 4 0 rfl rfl g_161 d_Wk_take_161 (fun H locs hP hD hS => ?_)
        rw [← er_161] at hP hD
        have hP : va_P G.1 vwCl (W_Wk G a (v.1, v.2.1, v.2.2.1, r_161, r_128, v.2.2.2.2.2)) H := hP
        have hD : va_D A (W_Wk G a (v.1, v.2.1, v.2.2.1, r_161, r_128, v.2.2.2.2.2)) := hD
        cases hf
        exact kV hx hb hr hlk hP hD hS d_Wk_take_162
    · replace hf := ob_ef c_131 hf
      refine lv_aload_n hx hb d_Wk_take_134 rfl (lv_at hl 0 rfl) ?_
      refine va_get (D := G.1) (ci := 7) (v := .ref (a 4)) (C := R_Wk) (T := T_Wk) (N := 6) hx hb hts in_Wk hown hK hP 0 rfl rfl 3 (by decide) (hts _ k_97) (fun _ h9 => h9) rfl d_Wk_take_135 ?_
      refine lv_iload_n hx hb d_Wk_take_138 rfl (lv_at hl 2 rfl) ?_
      refine lv_iconst (v := (0 : Int32)) hx hb d_Wk_take_139 (by decide) ?_
      obtain ⟨g_140, hf⟩ := og_e hf
      obtain ⟨r_140, er_140, hf⟩ := nx_e hf
      refine va_iast hx hb hK hP hD hS 4 0 rfl rfl g_140 d_Wk_take_140 (fun H locs hP hD hS => ?_)
      rw [← er_140] at hP hD
      have hP : va_P G.1 vwCl (W_Wk G a (v.1, v.2.1, v.2.2.1, r_140, r_128, v.2.2.2.2.2)) H := hP
      have hD : va_D A (W_Wk G a (v.1, v.2.1, v.2.2.1, r_140, r_128, v.2.2.2.2.2)) := hD
      refine lv_goto (tgt := 162) hx hb d_Wk_take_141 (by decide) ?_
      cases hf
      exact kV hx hb hr hlk hP hD hS d_Wk_take_162
  have J_85 : ∀ (l1 : Int32) (l2 : Int32) (l3 : Int32) (l4 : Int32) (l5 : Int32) (l6 : Int32) (s0 : Int32) (s1 : Int32) (v : V_Wk) (H : Heap) (locs : List Loc) (ls : Array Slot), va_P G.1 vwCl (W_Wk G a v) H → va_D A (W_Wk G a v) → va_S A s.heap H locs → lv_has ls 7 [(0, .ref (a 0)), (1, .int l1), (2, .int l2), (3, .int l3), (4, .int l4), (5, .int l5), (6, .int l6)] → f_Wk_take_85 l1 l2 l3 l4 l5 l6 s0 s1 v = some q → W p l e (rmk 1 21) s m args below meth c H locs 0 0 (MQ below (qV G A (W_Wk G a q)) args s 0 0 A) (F0 m 85 ls [.int s0, .int s1, .ref (a 1)]) := by
    intro l1 l2 l3 l4 l5 l6 s0 s1 v H locs ls hP hD hS hl hf
    unfold f_Wk_take_85 at hf
    obtain ⟨g_85, hf⟩ := og_e hf
    obtain ⟨r_85, er_85, hf⟩ := nx_e hf
    refine va_iast hx hb hK hP hD hS 1 0 rfl rfl g_85 d_Wk_take_85 (fun H locs hP hD hS => ?_)
    rw [← er_85] at hP hD
    have hP : va_P G.1 vwCl (W_Wk G a (r_85, v.2.1, v.2.2.1, v.2.2.2.1, v.2.2.2.2.1, v.2.2.2.2.2)) H := hP
    have hD : va_D A (W_Wk G a (r_85, v.2.1, v.2.2.1, v.2.2.2.1, v.2.2.2.2.1, v.2.2.2.2.2)) := hD
    refine lv_aload_n hx hb d_Wk_take_86 rfl (lv_at hl 0 rfl) ?_
    refine va_get (D := G.1) (ci := 7) (v := .ref (a 2)) (C := R_Wk) (T := T_Wk) (N := 6) hx hb hts in_Wk hown hK hP 0 rfl rfl 1 (by decide) (hts _ k_95) (fun _ h9 => h9) rfl d_Wk_take_87 ?_
    refine lv_iload_n hx hb d_Wk_take_90 rfl (lv_at hl 3 rfl) ?_
    refine lv_iload_n hx hb d_Wk_take_91 rfl (lv_at hl 1 rfl) ?_
    obtain ⟨g_92, hf⟩ := og_e hf
    obtain ⟨r_92, er_92, hf⟩ := nx_e hf
    refine va_iast hx hb hK hP hD hS 2 0 rfl rfl g_92 d_Wk_take_92 (fun H locs hP hD hS => ?_)
    rw [← er_92] at hP hD
    have hP : va_P G.1 vwCl (W_Wk G a (r_85, r_92, v.2.2.1, v.2.2.2.1, v.2.2.2.2.1, v.2.2.2.2.2)) H := hP
    have hD : va_D A (W_Wk G a (r_85, r_92, v.2.2.1, v.2.2.2.1, v.2.2.2.2.1, v.2.2.2.2.2)) := hD
    refine lv_aload_n hx hb d_Wk_take_93 rfl (lv_at hl 0 rfl) ?_
    refine va_get (D := G.1) (ci := 7) (v := .ref (a 3)) (C := R_Wk) (T := T_Wk) (N := 6) hx hb hts in_Wk hown hK hP 0 rfl rfl 2 (by decide) (hts _ k_96) (fun _ h9 => h9) rfl d_Wk_take_94 ?_
    refine lv_iload_n hx hb d_Wk_take_97 rfl (lv_at hl 3 rfl) ?_
    refine lv_dup2_11 hx hb d_Wk_take_98 rfl rfl ?_
    obtain ⟨g_99, hf⟩ := og_e hf
    refine va_iald hx hb hK hP 3 0 rfl rfl g_99 d_Wk_take_99 ?_
    refine lv_iconst (v := (1 : Int32)) hx hb d_Wk_take_100 (by decide) ?_
    refine lv_iadd hx hb d_Wk_take_101 ?_
    obtain ⟨g_102, hf⟩ := og_e hf
    obtain ⟨r_102, er_102, hf⟩ := nx_e hf
    refine va_iast hx hb hK hP hD hS 3 0 rfl rfl g_102 d_Wk_take_102 (fun H locs hP hD hS => ?_)
    rw [← er_102] at hP hD
    have hP : va_P G.1 vwCl (W_Wk G a (r_85, r_92, r_102, v.2.2.2.1, v.2.2.2.2.1, v.2.2.2.2.2)) H := hP
    have hD : va_D A (W_Wk G a (r_85, r_92, r_102, v.2.2.2.1, v.2.2.2.2.1, v.2.2.2.2.2)) := hD
    refine lv_aload_n hx hb d_Wk_take_103 rfl (lv_at hl 0 rfl) ?_
    refine va_get (D := G.1) (ci := 7) (v := .ref (a 5)) (C := R_Wk) (T := T_Wk) (N := 6) hx hb hts in_Wk hown hK hP 0 rfl rfl 4 (by decide) (hts _ k_98) (fun _ h9 => h9) rfl d_Wk_take_104 ?_
    refine lv_iload_n hx hb d_Wk_take_107 rfl (lv_at hl 3 rfl) ?_
    refine lv_iload hx hb d_Wk_take_108 (lv_at hl 6 rfl) ?_
    refine lv_if_eq (tgt := 117) hx hb d_Wk_take_110 (by decide) (fun c_110 => ?_) (fun c_110 => ?_)
    · replace hf := ob_et c_110 hf
      refine lv_iload_n hx hb d_Wk_take_117 rfl (lv_at hl 2 rfl) ?_
      refine lv_iconst (v := (2 : Int32)) hx hb d_Wk_take_118 (by decide) ?_
      refine lv_icmp_ne (tgt := 127) hx hb d_Wk_take_119 (by decide) (fun c_119 => ?_) (fun c_119 => ?_)
      · replace hf := ob_ef c_119 hf
        refine lv_iload_n hx hb d_Wk_take_127 rfl (lv_at hl 1 rfl) ?_
        exact J_128 l2 l3 l4 l6 l1 l3 (r_85, r_92, r_102, v.2.2.2.1, v.2.2.2.2.1, v.2.2.2.2.2) _ _ ls hP hD hS (lv_sub hl [0, 2, 3, 4, 6] rfl) hf
      · replace hf := ob_et c_119 hf
        refine lv_iload hx hb d_Wk_take_122 (lv_at hl 5 rfl) ?_
        refine lv_goto (tgt := 128) hx hb d_Wk_take_124 (by decide) ?_
        exact J_128 l2 l3 l4 l6 l5 l3 (r_85, r_92, r_102, v.2.2.2.1, v.2.2.2.2.1, v.2.2.2.2.2) _ _ ls hP hD hS (lv_sub hl [0, 2, 3, 4, 6] rfl) hf
    · replace hf := ob_ef c_110 hf
      refine lv_iconst (v := (0 : Int32)) hx hb d_Wk_take_113 (by decide) ?_
      refine lv_goto (tgt := 128) hx hb d_Wk_take_114 (by decide) ?_
      exact J_128 l2 l3 l4 l6 (0 : Int32) l3 (r_85, r_92, r_102, v.2.2.2.1, v.2.2.2.2.1, v.2.2.2.2.2) _ _ ls hP hD hS (lv_sub hl [0, 2, 3, 4, 6] rfl) hf
  have J_59 : ∀ (l1 : Int32) (l2 : Int32) (l3 : Int32) (l4 : Int32) (l5 : Int32) (s0 : Int32) (v : V_Wk) (H : Heap) (locs : List Loc) (ls : Array Slot), va_P G.1 vwCl (W_Wk G a v) H → va_D A (W_Wk G a v) → va_S A s.heap H locs → lv_has ls 7 [(0, .ref (a 0)), (1, .int l1), (2, .int l2), (3, .int l3), (4, .int l4), (5, .int l5)] → f_Wk_take_59 l1 l2 l3 l4 l5 s0 v = some q → W p l e (rmk 1 21) s m args below meth c H locs 0 0 (MQ below (qV G A (W_Wk G a q)) args s 0 0 A) (F0 m 59 ls [.int s0]) := by
    intro l1 l2 l3 l4 l5 s0 v H locs ls hP hD hS hl hf
    unfold f_Wk_take_59 at hf
    refine lv_istore (lv' := [(6, .int s0), (0, .ref (a 0)), (1, .int l1), (2, .int l2), (3, .int l3), (4, .int l4), (5, .int l5)]) hx hb d_Wk_take_59 hl (by decide) rfl (fun ls hl => ?_)
    refine lv_aload_n hx hb d_Wk_take_61 rfl (lv_at hl 1 rfl) ?_
    refine va_get (D := G.1) (ci := 7) (v := .ref (a 1)) (C := R_Wk) (T := T_Wk) (N := 6) hx hb hts in_Wk hown hK hP 0 rfl rfl 0 (by decide) (hts _ k_94) (fun _ h9 => h9) rfl d_Wk_take_62 ?_
    refine lv_iload_n hx hb d_Wk_take_65 rfl (lv_at hl 4 rfl) ?_
    refine lv_iload_n hx hb d_Wk_take_66 rfl (lv_at hl 3 rfl) ?_
    refine lv_iconst (v := (3 : Int32)) hx hb d_Wk_take_67 (by decide) ?_
    refine lv_icmp_ne (tgt := 75) hx hb d_Wk_take_68 (by decide) (fun c_68 => ?_) (fun c_68 => ?_)
    · replace hf := ob_ef c_68 hf
      refine lv_iload_n hx hb d_Wk_take_75 rfl (lv_at hl 3 rfl) ?_
      refine lv_iconst (v := (4 : Int32)) hx hb d_Wk_take_76 (by decide) ?_
      refine lv_icmp_ne (tgt := 84) hx hb d_Wk_take_77 (by decide) (fun c_77 => ?_) (fun c_77 => ?_)
      · replace hf := ob_ef c_77 hf
        refine lv_iconst (v := (0 : Int32)) hx hb d_Wk_take_84 (by decide) ?_
        exact J_85 l1 l2 l3 l4 l5 s0 (0 : Int32) l3 v _ _ ls hP hD hS (lv_sub hl [1, 2, 3, 4, 5, 6, 0] rfl) hf
      · replace hf := ob_et c_77 hf
        refine lv_iconst (v := (2 : Int32)) hx hb d_Wk_take_80 (by decide) ?_
        refine lv_goto (tgt := 85) hx hb d_Wk_take_81 (by decide) ?_
        exact J_85 l1 l2 l3 l4 l5 s0 (2 : Int32) l3 v _ _ ls hP hD hS (lv_sub hl [1, 2, 3, 4, 5, 6, 0] rfl) hf
    · replace hf := ob_et c_68 hf
      refine lv_iconst (v := (1 : Int32)) hx hb d_Wk_take_71 (by decide) ?_
      refine lv_goto (tgt := 85) hx hb d_Wk_take_72 (by decide) ?_
      exact J_85 l1 l2 l3 l4 l5 s0 (1 : Int32) l3 v _ _ ls hP hD hS (lv_sub hl [1, 2, 3, 4, 5, 6, 0] rfl) hf
  have J_35 : ∀ (l1 : Int32) (l2 : Int32) (l3 : Int32) (l4 : Int32) (l5 : Int32) (v : V_Wk) (H : Heap) (locs : List Loc) (ls : Array Slot), va_P G.1 vwCl (W_Wk G a v) H → va_D A (W_Wk G a v) → va_S A s.heap H locs → lv_has ls 7 [(0, .ref (a 0)), (1, .int l1), (2, .int l2), (3, .int l3), (4, .int l4), (5, .int l5)] → f_Wk_take_35 l1 l2 l3 l4 l5 v = some q → W p l e (rmk 1 21) s m args below meth c H locs 0 0 (MQ below (qV G A (W_Wk G a q)) args s 0 0 A) (F0 m 35 ls []) := by
    intro l1 l2 l3 l4 l5 v H locs ls hP hD hS hl hf
    unfold f_Wk_take_35 at hf
    refine lv_aload_n hx hb d_Wk_take_35 rfl (lv_at hl 0 rfl) ?_
    refine lv_iload_n hx hb d_Wk_take_36 rfl (lv_at hl 3 rfl) ?_
    obtain ⟨q_37, hc_37, hf⟩ := oc_e hf
    refine kcV (cc := c_Wk_take) (own := "FloodDiary$Works") (index := 37) (wc := W_Wk G a v) (wr := ([] : va_W)) (wc' := W_Wk G a v) (ws' := W_Wk G a v) hx hb hml hown hts hK hN hA hP hD hS (t_Wk_has l G a l3 v q_37 hc_37) m_Wk_has k_286 ⟨Nat.le_of_ble_eq_true rfl, Nat.le_of_ble_eq_true rfl⟩ (pm_0 (W_Wk G a v)) (pm_0 (W_Wk G a v)).symm 7 0 rfl rfl rfl rfl rfl (Nat.le_of_ble_eq_true rfl) hl.1 d_Wk_take_37 ⟨Nat.zero_le _, Nat.zero_le _⟩ (fun H locs hP hD hS => ?_)
    refine lv_if_ne (tgt := 44) hx hb d_Wk_take_40 (by decide) (fun c_40 => ?_) (fun c_40 => ?_)
    · replace hf := ob_ef c_40 hf
      refine lv_iload_n hx hb d_Wk_take_44 rfl (lv_at hl 2 rfl) ?_
      refine lv_iconst (v := (3 : Int32)) hx hb d_Wk_take_45 (by decide) ?_
      refine lv_icmp_eq (tgt := 54) hx hb d_Wk_take_46 (by decide) (fun c_46 => ?_) (fun c_46 => ?_)
      · replace hf := ob_et c_46 hf
        refine lv_iconst (v := (1 : Int32)) hx hb d_Wk_take_54 (by decide) ?_
        refine lv_goto (tgt := 59) hx hb d_Wk_take_55 (by decide) ?_
        exact J_59 l1 l2 l3 l4 l5 (1 : Int32) v _ _ ls hP hD hS (lv_sub hl [0, 1, 2, 3, 4, 5] rfl) hf
      · replace hf := ob_ef c_46 hf
        refine lv_iload_n hx hb d_Wk_take_49 rfl (lv_at hl 2 rfl) ?_
        refine lv_iconst (v := (4 : Int32)) hx hb d_Wk_take_50 (by decide) ?_
        refine lv_icmp_ne (tgt := 58) hx hb d_Wk_take_51 (by decide) (fun c_51 => ?_) (fun c_51 => ?_)
        · replace hf := ob_ef c_51 hf
          refine lv_iconst (v := (0 : Int32)) hx hb d_Wk_take_58 (by decide) ?_
          exact J_59 l1 l2 l3 l4 l5 (0 : Int32) v _ _ ls hP hD hS (lv_sub hl [0, 1, 2, 3, 4, 5] rfl) hf
        · replace hf := ob_et c_51 hf
          refine lv_iconst (v := (1 : Int32)) hx hb d_Wk_take_54 (by decide) ?_
          refine lv_goto (tgt := 59) hx hb d_Wk_take_55 (by decide) ?_
          exact J_59 l1 l2 l3 l4 l5 (1 : Int32) v _ _ ls hP hD hS (lv_sub hl [0, 1, 2, 3, 4, 5] rfl) hf
    · replace hf := ob_et c_40 hf
      cases hf
      exact kV hx hb hr hlk hP hD hS d_Wk_take_43
  unfold f_Wk_take at hf
  refine lv_iload_n hx hb d_Wk_take_0 rfl (lv_at hl 2 rfl) ?_
  refine lv_if_ne (tgt := 35) hx hb d_Wk_take_1 (by decide) (fun c_1 => ?_) (fun c_1 => ?_)
  · replace hf := ob_ef c_1 hf
    exact J_35 l1 l2 l3 l4 l5 v _ _ ls hP hD hS (lv_sub hl [0, 1, 2, 3, 4, 5] rfl) hf
  · replace hf := ob_et c_1 hf
    refine lv_iload_n hx hb d_Wk_take_4 rfl (lv_at hl 3 rfl) ?_
    refine lv_if_lt (tgt := 35) hx hb d_Wk_take_5 (by decide) (fun c_5 => ?_) (fun c_5 => ?_)
    · replace hf := ob_et c_5 hf
      exact J_35 l1 l2 l3 l4 l5 v _ _ ls hP hD hS (lv_sub hl [0, 1, 2, 3, 4, 5] rfl) hf
    · replace hf := ob_ef c_5 hf
      refine lv_iload_n hx hb d_Wk_take_8 rfl (lv_at hl 3 rfl) ?_
      refine lv_bipush (v := (16 : Int32)) hx hb d_Wk_take_9 (by decide) ?_
      refine lv_icmp_ge (tgt := 35) hx hb d_Wk_take_11 (by decide) (fun c_11 => ?_) (fun c_11 => ?_)
      · replace hf := ob_et c_11 hf
        exact J_35 l1 l2 l3 l4 l5 v _ _ ls hP hD hS (lv_sub hl [0, 1, 2, 3, 4, 5] rfl) hf
      · replace hf := ob_ef c_11 hf
        refine lv_aload_n hx hb d_Wk_take_14 rfl (lv_at hl 0 rfl) ?_
        refine lv_iload_n hx hb d_Wk_take_15 rfl (lv_at hl 3 rfl) ?_
        refine lv_iconst (v := (1 : Int32)) hx hb d_Wk_take_16 (by decide) ?_
        refine lv_iadd hx hb d_Wk_take_17 ?_
        refine va_put (D := G.1) (ci := 7) (v := .int (l3 + (1 : Int32))) (ty := .int) (C := R_Wk) (T := T_Wk) (N := 6) hx hb hts in_Wk ty_Wk ty_Wk_ok nm_Wk hown hK hP hD hS 0 rfl rfl 5 (by decide) (hts _ k_99) (fun _ h9 => h9) rfl (ty_Wk_ok 5 (by decide)) rfl rfl (Nat.le_of_ble_eq_true rfl) d_Wk_take_18 (fun H locs hP hD hS => ?_)
        have hP : va_P G.1 vwCl (W_Wk G a (v.1, v.2.1, v.2.2.1, v.2.2.2.1, v.2.2.2.2.1, (l3 + (1 : Int32)))) H := hP
        have hD : va_D A (W_Wk G a (v.1, v.2.1, v.2.2.1, v.2.2.2.1, v.2.2.2.2.1, (l3 + (1 : Int32)))) := hD
        refine lv_aload_n hx hb d_Wk_take_21 rfl (lv_at hl 0 rfl) ?_
        refine va_get (D := G.1) (ci := 7) (v := .ref (a 3)) (C := R_Wk) (T := T_Wk) (N := 6) hx hb hts in_Wk hown hK hP 0 rfl rfl 2 (by decide) (hts _ k_96) (fun _ h9 => h9) rfl d_Wk_take_22 ?_
        refine lv_iload_n hx hb d_Wk_take_25 rfl (lv_at hl 3 rfl) ?_
        refine lv_iconst (v := (0 : Int32)) hx hb d_Wk_take_26 (by decide) ?_
        obtain ⟨g_27, hf⟩ := og_e hf
        obtain ⟨r_27, er_27, hf⟩ := nx_e hf
        refine va_iast hx hb hK hP hD hS 3 0 rfl rfl g_27 d_Wk_take_27 (fun H locs hP hD hS => ?_)
        rw [← er_27] at hP hD
        have hP : va_P G.1 vwCl (W_Wk G a (v.1, v.2.1, r_27, v.2.2.2.1, v.2.2.2.2.1, (l3 + (1 : Int32)))) H := hP
        have hD : va_D A (W_Wk G a (v.1, v.2.1, r_27, v.2.2.2.1, v.2.2.2.2.1, (l3 + (1 : Int32)))) := hD
        refine lv_aload_n hx hb d_Wk_take_28 rfl (lv_at hl 0 rfl) ?_
        refine va_get (D := G.1) (ci := 7) (v := .ref (a 4)) (C := R_Wk) (T := T_Wk) (N := 6) hx hb hts in_Wk hown hK hP 0 rfl rfl 3 (by decide) (hts _ k_97) (fun _ h9 => h9) rfl d_Wk_take_29 ?_
        refine lv_iload_n hx hb d_Wk_take_32 rfl (lv_at hl 3 rfl) ?_
        refine lv_iconst (v := (0 : Int32)) hx hb d_Wk_take_33 (by decide) ?_
        obtain ⟨g_34, hf⟩ := og_e hf
        obtain ⟨r_34, er_34, hf⟩ := nx_e hf
        refine va_iast hx hb hK hP hD hS 4 0 rfl rfl g_34 d_Wk_take_34 (fun H locs hP hD hS => ?_)
        rw [← er_34] at hP hD
        have hP : va_P G.1 vwCl (W_Wk G a (v.1, v.2.1, r_27, r_34, v.2.2.2.2.1, (l3 + (1 : Int32)))) H := hP
        have hD : va_D A (W_Wk G a (v.1, v.2.1, r_27, r_34, v.2.2.2.2.1, (l3 + (1 : Int32)))) := hD
        exact J_35 l1 l2 l3 l4 l5 (v.1, v.2.1, r_27, r_34, v.2.2.2.2.1, (l3 + (1 : Int32))) _ _ ls hP hD hS (lv_sub hl [0, 1, 2, 3, 4, 5] rfl) hf
theorem pm_1 (x0 x1 : va_W) : List.Perm ((x0) ++ (x1)) ((x1) ++ (x0 ++ (([] : va_W)))) := prm (fun d z => by first | (simp only [List.count_append, List.count_nil]; omega) | simp only [List.count_append, List.count_nil])
theorem pm_2 (x0 x1 : va_W) : List.Perm ((x0) ++ (x1)) ((x0) ++ (x1 ++ (([] : va_W)))) := prm (fun d z => by first | (simp only [List.count_append, List.count_nil]; omega) | simp only [List.count_append, List.count_nil])
set_option maxHeartbeats 4000000 in
set_option maxRecDepth 100000 in
theorem t_Wk_readAnew (l : Launch) (G : GG) (a : Nat → Nat) (b : Nat → Nat) (v : V_Wk) (u : V_Dy) (q : V_Wk) (hf : f_Wk_readAnew v u = some q) : MV l G y_Wk_readAnew c_Wk_readAnew 3 (rmk 2 47) (W_Wk G a v ++ W_Dy G b u) [.ref (a 0), .ref (b 0)] (W_Wk G a q ++ W_Dy G b u) := by
  refine ofV "FloodDiary$Works" (by decide +kernel) rfl (Nat.le_of_ble_eq_true rfl) (fun p e s m args below meth c A ls hx hb hr hml hown hts hlk hK hN hA hP hD hS hl => ?_)
  have hl : lv_has ls 3 [(0, .ref (a 0)), (1, .ref (b 0))] := hl
  have J_7 : ∀ (n_7 : Nat) (l2 : Int32) (v : V_Wk) (u : V_Dy) (H : Heap) (locs : List Loc) (ls : Array Slot), va_P G.1 vwCl (W_Wk G a v ++ W_Dy G b u) H → va_D A (W_Wk G a v ++ W_Dy G b u) → va_S A s.heap H locs → lv_has ls 3 [(0, .ref (a 0)), (1, .ref (b 0)), (2, .int l2)] → f_Wk_readAnew_7 n_7 l2 v u = some q → W p l e (rmk 2 47) s m args below meth c H locs 0 0 (MQ below (qV G A (W_Wk G a q ++ W_Dy G b u)) args s 0 0 A) (F0 m 7 ls []) := by
    intro n_7
    induction n_7 with
    | zero => intro l2 v u H locs ls hP hD hS hl hf; exact absurd hf (by unfold f_Wk_readAnew_7; exact fun z => by cases z)
    | succ n_7 ih_7 =>
      intro l2 v u H locs ls hP hD hS hl hf
      rw [f_Wk_readAnew_7] at hf
      refine lv_iload_n hx hb d_Wk_readAnew_7 rfl (lv_at hl 2 rfl) ?_
      refine lv_aload_n hx hb d_Wk_readAnew_8 rfl (lv_at hl 1 rfl) ?_
      refine va_getN (D := G.1) (ci := 0) (v := .int u.2.2.2.2.2.2.2.1) (C := R_Dy) (T := T_Dy) (N := 9) (host := "FloodDiary") hx hb hts in_Dy hown hK hP 6 rfl rfl 7 (by decide) (va_Nw.use rfl (hN.1 _ nsF_1)) (fun _ h9 => h9) rfl d_Wk_readAnew_9 ?_
      refine lv_icmp_gt (tgt := 46) hx hb d_Wk_readAnew_12 (by decide) (fun c_12 => ?_) (fun c_12 => ?_)
      · replace hf := ob_et c_12 hf
        cases hf
        exact kV hx hb hr hlk hP hD hS d_Wk_readAnew_46
      · replace hf := ob_ef c_12 hf
        refine lv_aload_n hx hb d_Wk_readAnew_15 rfl (lv_at hl 0 rfl) ?_
        refine lv_iload_n hx hb d_Wk_readAnew_16 rfl (lv_at hl 2 rfl) ?_
        refine lv_aload_n hx hb d_Wk_readAnew_17 rfl (lv_at hl 1 rfl) ?_
        refine lv_iload_n hx hb d_Wk_readAnew_18 rfl (lv_at hl 2 rfl) ?_
        obtain ⟨q_19, hc_19, hf⟩ := oc_e hf
        refine kcV (cc := c_Wk_readAnew) (own := "FloodDiary$Works") (index := 58) (wc := W_Dy G b u) (wr := W_Wk G a v ++ (([] : va_W))) (wc' := W_Dy G b u) (ws' := W_Wk G a v ++ W_Dy G b u) hx hb hml hown hts hK hN hA hP hD hS (t_Dy_kindOf l G b l2 u q_19 hc_19) m_Dy_kindOf k_462 ⟨Nat.le_of_ble_eq_true rfl, Nat.le_of_ble_eq_true rfl⟩ (pm_1 (W_Wk G a v) (W_Dy G b u)) (pm_1 (W_Wk G a v) (W_Dy G b u)).symm 0 0 rfl rfl rfl rfl rfl (Nat.le_of_ble_eq_true rfl) hl.1 d_Wk_readAnew_19 ⟨Nat.zero_le _, Nat.zero_le _⟩ (fun H locs hP hD hS => ?_)
        refine lv_aload_n hx hb d_Wk_readAnew_22 rfl (lv_at hl 1 rfl) ?_
        refine lv_iload_n hx hb d_Wk_readAnew_23 rfl (lv_at hl 2 rfl) ?_
        obtain ⟨q_24, hc_24, hf⟩ := oc_e hf
        refine kcV (cc := c_Wk_readAnew) (own := "FloodDiary$Works") (index := 61) (wc := W_Dy G b u) (wr := W_Wk G a v ++ (([] : va_W))) (wc' := W_Dy G b u) (ws' := W_Wk G a v ++ W_Dy G b u) hx hb hml hown hts hK hN hA hP hD hS (t_Dy_workOf l G b l2 u q_24 hc_24) m_Dy_workOf k_463 ⟨Nat.le_of_ble_eq_true rfl, Nat.le_of_ble_eq_true rfl⟩ (pm_1 (W_Wk G a v) (W_Dy G b u)) (pm_1 (W_Wk G a v) (W_Dy G b u)).symm 0 0 rfl rfl rfl rfl rfl (Nat.le_of_ble_eq_true rfl) hl.1 d_Wk_readAnew_24 ⟨Nat.zero_le _, Nat.zero_le _⟩ (fun H locs hP hD hS => ?_)
        refine lv_aload_n hx hb d_Wk_readAnew_27 rfl (lv_at hl 1 rfl) ?_
        refine lv_iload_n hx hb d_Wk_readAnew_28 rfl (lv_at hl 2 rfl) ?_
        obtain ⟨q_29, hc_29, hf⟩ := oc_e hf
        refine kcV (cc := c_Wk_readAnew) (own := "FloodDiary$Works") (index := 64) (wc := W_Dy G b u) (wr := W_Wk G a v ++ (([] : va_W))) (wc' := W_Dy G b u) (ws' := W_Wk G a v ++ W_Dy G b u) hx hb hml hown hts hK hN hA hP hD hS (t_Dy_pageOf l G b l2 u q_29 hc_29) m_Dy_pageOf k_467 ⟨Nat.le_of_ble_eq_true rfl, Nat.le_of_ble_eq_true rfl⟩ (pm_1 (W_Wk G a v) (W_Dy G b u)) (pm_1 (W_Wk G a v) (W_Dy G b u)).symm 0 0 rfl rfl rfl rfl rfl (Nat.le_of_ble_eq_true rfl) hl.1 d_Wk_readAnew_29 ⟨Nat.zero_le _, Nat.zero_le _⟩ (fun H locs hP hD hS => ?_)
        refine lv_aload_n hx hb d_Wk_readAnew_32 rfl (lv_at hl 1 rfl) ?_
        refine lv_iload_n hx hb d_Wk_readAnew_33 rfl (lv_at hl 2 rfl) ?_
        obtain ⟨q_34, hc_34, hf⟩ := oc_e hf
        refine kcV (cc := c_Wk_readAnew) (own := "FloodDiary$Works") (index := 67) (wc := W_Dy G b u) (wr := W_Wk G a v ++ (([] : va_W))) (wc' := W_Dy G b u) (ws' := W_Wk G a v ++ W_Dy G b u) hx hb hml hown hts hK hN hA hP hD hS (t_Dy_nextOf l G b l2 u q_34 hc_34) m_Dy_nextOf k_468 ⟨Nat.le_of_ble_eq_true rfl, Nat.le_of_ble_eq_true rfl⟩ (pm_1 (W_Wk G a v) (W_Dy G b u)) (pm_1 (W_Wk G a v) (W_Dy G b u)).symm 0 0 rfl rfl rfl rfl rfl (Nat.le_of_ble_eq_true rfl) hl.1 d_Wk_readAnew_34 ⟨Nat.zero_le _, Nat.zero_le _⟩ (fun H locs hP hD hS => ?_)
        obtain ⟨q_37, hc_37, hf⟩ := oc_e hf
        refine kcVv (cc := c_Wk_readAnew) (own := "FloodDiary$Works") (index := 70) (wc := W_Wk G a v) (wr := W_Dy G b u ++ (([] : va_W))) (wc' := W_Wk G a q_37) (ws' := W_Wk G a q_37 ++ W_Dy G b u) hx hb hml hown hts hK hN hA hP hD hS (t_Wk_take l G a l2 q_19 q_24 q_29 q_34 v q_37 hc_37) m_Wk_take k_472 ⟨Nat.le_of_ble_eq_true rfl, Nat.le_of_ble_eq_true rfl⟩ (pm_2 (W_Wk G a v) (W_Dy G b u)) (pm_2 (W_Wk G a q_37) (W_Dy G b u)).symm 7 0 rfl rfl rfl rfl rfl (Nat.le_of_ble_eq_true rfl) hl.1 d_Wk_readAnew_37 ⟨Nat.zero_le _, Nat.zero_le _⟩ (fun H locs hP hD hS => ?_)
        refine lv_iinc (v := (l2 + (1 : Int32))) (lv' := [(2, .int (l2 + (1 : Int32))), (0, .ref (a 0)), (1, .ref (b 0))]) hx hb d_Wk_readAnew_40 hl (k := 2) rfl rfl (by decide) rfl (fun ls hl => ?_)
        refine lv_goto (tgt := 7) hx hb d_Wk_readAnew_43 (by decide) ?_
        exact ih_7 (l2 + (1 : Int32)) q_37 u _ _ ls hP hD hS (lv_sub hl [1, 2, 0] rfl) hf
  unfold f_Wk_readAnew at hf
  refine lv_aload_n hx hb d_Wk_readAnew_0 rfl (lv_at hl 0 rfl) ?_
  refine lv_iconst (v := (0 : Int32)) hx hb d_Wk_readAnew_1 (by decide) ?_
  refine va_put (D := G.1) (ci := 7) (v := .int (0 : Int32)) (ty := .int) (C := R_Wk) (T := T_Wk) (N := 6) hx hb hts in_Wk ty_Wk ty_Wk_ok nm_Wk hown hK hP hD hS 0 rfl rfl 5 (by decide) (hts _ k_99) (fun _ h9 => h9) rfl (ty_Wk_ok 5 (by decide)) rfl rfl (Nat.le_of_ble_eq_true rfl) d_Wk_readAnew_2 (fun H locs hP hD hS => ?_)
  have hP : va_P G.1 vwCl (W_Wk G a (v.1, v.2.1, v.2.2.1, v.2.2.2.1, v.2.2.2.2.1, (0 : Int32)) ++ W_Dy G b u) H := hP
  have hD : va_D A (W_Wk G a (v.1, v.2.1, v.2.2.1, v.2.2.2.1, v.2.2.2.2.1, (0 : Int32)) ++ W_Dy G b u) := hD
  refine lv_iconst (v := (1 : Int32)) hx hb d_Wk_readAnew_5 (by decide) ?_
  refine lv_istore_n (lv' := [(2, .int (1 : Int32)), (0, .ref (a 0)), (1, .ref (b 0))]) hx hb d_Wk_readAnew_6 rfl hl (by decide) rfl (fun ls hl => ?_)
  exact J_7 FU (1 : Int32) (v.1, v.2.1, v.2.2.1, v.2.2.2.1, v.2.2.2.2.1, (0 : Int32)) u _ _ ls hP hD hS (lv_sub hl [1, 2, 0] rfl) hf
set_option maxHeartbeats 4000000 in
set_option maxRecDepth 100000 in
theorem t_Wk_about (l : Launch) (G : GG) (a : Nat → Nat) (l1 : Int32) (l2 : Int32) (v : V_Wk) (q : Int32) (hf : f_Wk_about l1 l2 v = some q) : MI l G y_Wk_about c_Wk_about 3 (some .int) (rmk 1 21) (W_Wk G a v) [.ref (a 0), .int l1, .int l2] (W_Wk G a v) (q) := by
  refine ofI "FloodDiary$Works" (by decide +kernel) rfl (Nat.le_of_ble_eq_true rfl) (fun p e s m args below meth c A ls hx hb hr hml hown hts hlk hK hN hA hP hD hS hl => ?_)
  have hl : lv_has ls 3 [(0, .ref (a 0)), (1, .int l1), (2, .int l2)] := hl
  unfold f_Wk_about at hf
  refine lv_aload_n hx hb d_Wk_about_0 rfl (lv_at hl 0 rfl) ?_
  refine lv_iload_n hx hb d_Wk_about_1 rfl (lv_at hl 1 rfl) ?_
  obtain ⟨q_2, hc_2, hf⟩ := oc_e hf
  refine kcV (cc := c_Wk_about) (own := "FloodDiary$Works") (index := 37) (wc := W_Wk G a v) (wr := ([] : va_W)) (wc' := W_Wk G a v) (ws' := W_Wk G a v) hx hb hml hown hts hK hN hA hP hD hS (t_Wk_has l G a l1 v q_2 hc_2) m_Wk_has k_286 ⟨Nat.le_of_ble_eq_true rfl, Nat.le_of_ble_eq_true rfl⟩ (pm_0 (W_Wk G a v)) (pm_0 (W_Wk G a v)).symm 7 0 rfl rfl rfl rfl rfl (Nat.le_of_ble_eq_true rfl) hl.1 d_Wk_about_2 ⟨Nat.zero_le _, Nat.zero_le _⟩ (fun H locs hP hD hS => ?_)
  refine lv_if_ne (tgt := 10) hx hb d_Wk_about_5 (by decide) (fun c_5 => ?_) (fun c_5 => ?_)
  · replace hf := ob_ef c_5 hf
    refine lv_iload_n hx hb d_Wk_about_10 rfl (lv_at hl 2 rfl) ?_
    by_cases e_11_0 : l2 = (0 : Int32)
    · replace hf := ob_et e_11_0 hf
      refine lv_tableIn (off := 33) (tgt := 44) hx hb d_Wk_about_11 (by rw [e_11_0]; decide) (by rw [e_11_0]; decide) (by rw [e_11_0]; decide) (by decide) ?_
      refine lv_aload_n hx hb d_Wk_about_44 rfl (lv_at hl 0 rfl) ?_
      refine va_get (D := G.1) (ci := 7) (v := .ref (a 1)) (C := R_Wk) (T := T_Wk) (N := 6) hx hb hts in_Wk hown hK hP 0 rfl rfl 0 (by decide) (hts _ k_94) (fun _ h9 => h9) rfl d_Wk_about_45 ?_
      refine lv_iload_n hx hb d_Wk_about_48 rfl (lv_at hl 1 rfl) ?_
      obtain ⟨g_49, hf⟩ := og_e hf
      refine va_iald hx hb hK hP 1 0 rfl rfl g_49 d_Wk_about_49 ?_
      cases hf
      exact kI hx hb hr hlk hP hD hS d_Wk_about_50
    · replace hf := ob_ef e_11_0 hf
      by_cases e_11_1 : l2 = (1 : Int32)
      · replace hf := ob_et e_11_1 hf
        refine lv_tableIn (off := 40) (tgt := 51) hx hb d_Wk_about_11 (by rw [e_11_1]; decide) (by rw [e_11_1]; decide) (by rw [e_11_1]; decide) (by decide) ?_
        refine lv_aload_n hx hb d_Wk_about_51 rfl (lv_at hl 0 rfl) ?_
        refine va_get (D := G.1) (ci := 7) (v := .ref (a 2)) (C := R_Wk) (T := T_Wk) (N := 6) hx hb hts in_Wk hown hK hP 0 rfl rfl 1 (by decide) (hts _ k_95) (fun _ h9 => h9) rfl d_Wk_about_52 ?_
        refine lv_iload_n hx hb d_Wk_about_55 rfl (lv_at hl 1 rfl) ?_
        obtain ⟨g_56, hf⟩ := og_e hf
        refine va_iald hx hb hK hP 2 0 rfl rfl g_56 d_Wk_about_56 ?_
        cases hf
        exact kI hx hb hr hlk hP hD hS d_Wk_about_57
      · replace hf := ob_ef e_11_1 hf
        by_cases e_11_2 : l2 = (2 : Int32)
        · replace hf := ob_et e_11_2 hf
          refine lv_tableIn (off := 47) (tgt := 58) hx hb d_Wk_about_11 (by rw [e_11_2]; decide) (by rw [e_11_2]; decide) (by rw [e_11_2]; decide) (by decide) ?_
          refine lv_aload_n hx hb d_Wk_about_58 rfl (lv_at hl 0 rfl) ?_
          refine va_get (D := G.1) (ci := 7) (v := .ref (a 3)) (C := R_Wk) (T := T_Wk) (N := 6) hx hb hts in_Wk hown hK hP 0 rfl rfl 2 (by decide) (hts _ k_96) (fun _ h9 => h9) rfl d_Wk_about_59 ?_
          refine lv_iload_n hx hb d_Wk_about_62 rfl (lv_at hl 1 rfl) ?_
          obtain ⟨g_63, hf⟩ := og_e hf
          refine va_iald hx hb hK hP 3 0 rfl rfl g_63 d_Wk_about_63 ?_
          cases hf
          exact kI hx hb hr hlk hP hD hS d_Wk_about_64
        · replace hf := ob_ef e_11_2 hf
          by_cases e_11_3 : l2 = (3 : Int32)
          · replace hf := ob_et e_11_3 hf
            refine lv_tableIn (off := 54) (tgt := 65) hx hb d_Wk_about_11 (by rw [e_11_3]; decide) (by rw [e_11_3]; decide) (by rw [e_11_3]; decide) (by decide) ?_
            refine lv_aload_n hx hb d_Wk_about_65 rfl (lv_at hl 0 rfl) ?_
            refine va_get (D := G.1) (ci := 7) (v := .ref (a 4)) (C := R_Wk) (T := T_Wk) (N := 6) hx hb hts in_Wk hown hK hP 0 rfl rfl 3 (by decide) (hts _ k_97) (fun _ h9 => h9) rfl d_Wk_about_66 ?_
            refine lv_iload_n hx hb d_Wk_about_69 rfl (lv_at hl 1 rfl) ?_
            obtain ⟨g_70, hf⟩ := og_e hf
            refine va_iald hx hb hK hP 4 0 rfl rfl g_70 d_Wk_about_70 ?_
            cases hf
            exact kI hx hb hr hlk hP hD hS d_Wk_about_71
          · replace hf := ob_ef e_11_3 hf
            by_cases e_11_4 : l2 = (4 : Int32)
            · replace hf := ob_et e_11_4 hf
              refine lv_tableIn (off := 61) (tgt := 72) hx hb d_Wk_about_11 (by rw [e_11_4]; decide) (by rw [e_11_4]; decide) (by rw [e_11_4]; decide) (by decide) ?_
              refine lv_aload_n hx hb d_Wk_about_72 rfl (lv_at hl 0 rfl) ?_
              refine va_get (D := G.1) (ci := 7) (v := .ref (a 5)) (C := R_Wk) (T := T_Wk) (N := 6) hx hb hts in_Wk hown hK hP 0 rfl rfl 4 (by decide) (hts _ k_98) (fun _ h9 => h9) rfl d_Wk_about_73 ?_
              refine lv_iload_n hx hb d_Wk_about_76 rfl (lv_at hl 1 rfl) ?_
              obtain ⟨g_77, hf⟩ := og_e hf
              refine va_iald hx hb hK hP 5 0 rfl rfl g_77 d_Wk_about_77 ?_
              cases hf
              exact kI hx hb hr hlk hP hD hS d_Wk_about_78
            · replace hf := ob_ef e_11_4 hf
              have z_11_0 := lv_neT e_11_0 (show (0 : Int32).toInt = 0 by decide)
              have z_11_1 := lv_neT e_11_1 (show (1 : Int32).toInt = 1 by decide)
              have z_11_2 := lv_neT e_11_2 (show (2 : Int32).toInt = 2 by decide)
              have z_11_3 := lv_neT e_11_3 (show (3 : Int32).toInt = 3 by decide)
              have z_11_4 := lv_neT e_11_4 (show (4 : Int32).toInt = 4 by decide)
              refine lv_tableOut (tgt := 79) hx hb d_Wk_about_11 (by omega) (by decide) ?_
              refine lv_bipush (v := (-2 : Int32)) hx hb d_Wk_about_79 (by decide) ?_
              cases hf
              exact kI hx hb hr hlk hP hD hS d_Wk_about_81
  · replace hf := ob_et c_5 hf
    refine lv_iconst (v := (-1 : Int32)) hx hb d_Wk_about_8 (by decide) ?_
    cases hf
    exact kI hx hb hr hlk hP hD hS d_Wk_about_9
set_option maxHeartbeats 4000000 in
set_option maxRecDepth 100000 in
theorem t_Wk_become (l : Launch) (G : GG) (a : Nat → Nat) (b : Nat → Nat) (v : V_Wk) (u : V_Wk) (q : V_Wk) (hf : f_Wk_become v u = some q) : MV l G y_Wk_become c_Wk_become 2 (rmk 1 18) (W_Wk G a v ++ W_Wk G b u) [.ref (a 0), .ref (b 0)] (W_Wk G a q ++ W_Wk G b u) := by
  refine ofV "FloodDiary$Works" (by decide +kernel) rfl (Nat.le_of_ble_eq_true rfl) (fun p e s m args below meth c A ls hx hb hr hml hown hts hlk hK hN hA hP hD hS hl => ?_)
  have hl : lv_has ls 2 [(0, .ref (a 0)), (1, .ref (b 0))] := hl
  unfold f_Wk_become at hf
  refine lv_aload_n hx hb d_Wk_become_0 rfl (lv_at hl 1 rfl) ?_
  refine va_get (D := G.1) (ci := 7) (v := .ref (b 1)) (C := R_Wk) (T := T_Wk) (N := 6) hx hb hts in_Wk hown hK hP 6 rfl rfl 0 (by decide) (hts _ k_94) (fun _ h9 => h9) rfl d_Wk_become_1 ?_
  refine lv_iconst (v := (0 : Int32)) hx hb d_Wk_become_4 (by decide) ?_
  refine lv_aload_n hx hb d_Wk_become_5 rfl (lv_at hl 0 rfl) ?_
  refine va_get (D := G.1) (ci := 7) (v := .ref (a 1)) (C := R_Wk) (T := T_Wk) (N := 6) hx hb hts in_Wk hown hK hP 0 rfl rfl 0 (by decide) (hts _ k_94) (fun _ h9 => h9) rfl d_Wk_become_6 ?_
  refine lv_iconst (v := (0 : Int32)) hx hb d_Wk_become_9 (by decide) ?_
  refine lv_bipush (v := (16 : Int32)) hx hb d_Wk_become_10 (by decide) ?_
  obtain ⟨⟨g1_12, g2_12, g3_12, g4_12, g5_12⟩, hf⟩ := og_e hf
  obtain ⟨r_12, er_12, hf⟩ := nx_e hf
  refine va_copyi (own := "FloodDiary$Works") (index := 31) (ty := .int) hx hb (hml.trans hl.1.symm) hown (hts _ k_265) (hts _ k_255) (hts _ k_254) (hts _ k_11) hK hP hD hS 7 1 0 0 rfl rfl rfl rfl rfl g1_12 g2_12 g3_12 g4_12 g5_12 (fun _ _ => rfl) (Nat.le_of_ble_eq_true rfl) (Nat.le_of_ble_eq_true rfl) d_Wk_become_12 (fun H locs hP hD hS => ?_)
  rw [← er_12] at hP hD
  have hP : va_P G.1 vwCl (W_Wk G a (r_12, v.2.1, v.2.2.1, v.2.2.2.1, v.2.2.2.2.1, v.2.2.2.2.2) ++ W_Wk G b u) H := hP
  have hD : va_D A (W_Wk G a (r_12, v.2.1, v.2.2.1, v.2.2.2.1, v.2.2.2.2.1, v.2.2.2.2.2) ++ W_Wk G b u) := hD
  refine lv_aload_n hx hb d_Wk_become_15 rfl (lv_at hl 1 rfl) ?_
  refine va_get (D := G.1) (ci := 7) (v := .ref (b 2)) (C := R_Wk) (T := T_Wk) (N := 6) hx hb hts in_Wk hown hK hP 6 rfl rfl 1 (by decide) (hts _ k_95) (fun _ h9 => h9) rfl d_Wk_become_16 ?_
  refine lv_iconst (v := (0 : Int32)) hx hb d_Wk_become_19 (by decide) ?_
  refine lv_aload_n hx hb d_Wk_become_20 rfl (lv_at hl 0 rfl) ?_
  refine va_get (D := G.1) (ci := 7) (v := .ref (a 2)) (C := R_Wk) (T := T_Wk) (N := 6) hx hb hts in_Wk hown hK hP 0 rfl rfl 1 (by decide) (hts _ k_95) (fun _ h9 => h9) rfl d_Wk_become_21 ?_
  refine lv_iconst (v := (0 : Int32)) hx hb d_Wk_become_24 (by decide) ?_
  refine lv_bipush (v := (16 : Int32)) hx hb d_Wk_become_25 (by decide) ?_
  obtain ⟨⟨g1_27, g2_27, g3_27, g4_27, g5_27⟩, hf⟩ := og_e hf
  obtain ⟨r_27, er_27, hf⟩ := nx_e hf
  refine va_copyi (own := "FloodDiary$Works") (index := 31) (ty := .int) hx hb (hml.trans hl.1.symm) hown (hts _ k_265) (hts _ k_255) (hts _ k_254) (hts _ k_11) hK hP hD hS 8 2 0 0 rfl rfl rfl rfl rfl g1_27 g2_27 g3_27 g4_27 g5_27 (fun _ _ => rfl) (Nat.le_of_ble_eq_true rfl) (Nat.le_of_ble_eq_true rfl) d_Wk_become_27 (fun H locs hP hD hS => ?_)
  rw [← er_27] at hP hD
  have hP : va_P G.1 vwCl (W_Wk G a (r_12, r_27, v.2.2.1, v.2.2.2.1, v.2.2.2.2.1, v.2.2.2.2.2) ++ W_Wk G b u) H := hP
  have hD : va_D A (W_Wk G a (r_12, r_27, v.2.2.1, v.2.2.2.1, v.2.2.2.2.1, v.2.2.2.2.2) ++ W_Wk G b u) := hD
  refine lv_aload_n hx hb d_Wk_become_30 rfl (lv_at hl 1 rfl) ?_
  refine va_get (D := G.1) (ci := 7) (v := .ref (b 3)) (C := R_Wk) (T := T_Wk) (N := 6) hx hb hts in_Wk hown hK hP 6 rfl rfl 2 (by decide) (hts _ k_96) (fun _ h9 => h9) rfl d_Wk_become_31 ?_
  refine lv_iconst (v := (0 : Int32)) hx hb d_Wk_become_34 (by decide) ?_
  refine lv_aload_n hx hb d_Wk_become_35 rfl (lv_at hl 0 rfl) ?_
  refine va_get (D := G.1) (ci := 7) (v := .ref (a 3)) (C := R_Wk) (T := T_Wk) (N := 6) hx hb hts in_Wk hown hK hP 0 rfl rfl 2 (by decide) (hts _ k_96) (fun _ h9 => h9) rfl d_Wk_become_36 ?_
  refine lv_iconst (v := (0 : Int32)) hx hb d_Wk_become_39 (by decide) ?_
  refine lv_bipush (v := (16 : Int32)) hx hb d_Wk_become_40 (by decide) ?_
  obtain ⟨⟨g1_42, g2_42, g3_42, g4_42, g5_42⟩, hf⟩ := og_e hf
  obtain ⟨r_42, er_42, hf⟩ := nx_e hf
  refine va_copyi (own := "FloodDiary$Works") (index := 31) (ty := .int) hx hb (hml.trans hl.1.symm) hown (hts _ k_265) (hts _ k_255) (hts _ k_254) (hts _ k_11) hK hP hD hS 9 3 0 0 rfl rfl rfl rfl rfl g1_42 g2_42 g3_42 g4_42 g5_42 (fun _ _ => rfl) (Nat.le_of_ble_eq_true rfl) (Nat.le_of_ble_eq_true rfl) d_Wk_become_42 (fun H locs hP hD hS => ?_)
  rw [← er_42] at hP hD
  have hP : va_P G.1 vwCl (W_Wk G a (r_12, r_27, r_42, v.2.2.2.1, v.2.2.2.2.1, v.2.2.2.2.2) ++ W_Wk G b u) H := hP
  have hD : va_D A (W_Wk G a (r_12, r_27, r_42, v.2.2.2.1, v.2.2.2.2.1, v.2.2.2.2.2) ++ W_Wk G b u) := hD
  refine lv_aload_n hx hb d_Wk_become_45 rfl (lv_at hl 1 rfl) ?_
  refine va_get (D := G.1) (ci := 7) (v := .ref (b 4)) (C := R_Wk) (T := T_Wk) (N := 6) hx hb hts in_Wk hown hK hP 6 rfl rfl 3 (by decide) (hts _ k_97) (fun _ h9 => h9) rfl d_Wk_become_46 ?_
  refine lv_iconst (v := (0 : Int32)) hx hb d_Wk_become_49 (by decide) ?_
  refine lv_aload_n hx hb d_Wk_become_50 rfl (lv_at hl 0 rfl) ?_
  refine va_get (D := G.1) (ci := 7) (v := .ref (a 4)) (C := R_Wk) (T := T_Wk) (N := 6) hx hb hts in_Wk hown hK hP 0 rfl rfl 3 (by decide) (hts _ k_97) (fun _ h9 => h9) rfl d_Wk_become_51 ?_
  refine lv_iconst (v := (0 : Int32)) hx hb d_Wk_become_54 (by decide) ?_
  refine lv_bipush (v := (16 : Int32)) hx hb d_Wk_become_55 (by decide) ?_
  obtain ⟨⟨g1_57, g2_57, g3_57, g4_57, g5_57⟩, hf⟩ := og_e hf
  obtain ⟨r_57, er_57, hf⟩ := nx_e hf
  refine va_copyi (own := "FloodDiary$Works") (index := 31) (ty := .int) hx hb (hml.trans hl.1.symm) hown (hts _ k_265) (hts _ k_255) (hts _ k_254) (hts _ k_11) hK hP hD hS 10 4 0 0 rfl rfl rfl rfl rfl g1_57 g2_57 g3_57 g4_57 g5_57 (fun _ _ => rfl) (Nat.le_of_ble_eq_true rfl) (Nat.le_of_ble_eq_true rfl) d_Wk_become_57 (fun H locs hP hD hS => ?_)
  rw [← er_57] at hP hD
  have hP : va_P G.1 vwCl (W_Wk G a (r_12, r_27, r_42, r_57, v.2.2.2.2.1, v.2.2.2.2.2) ++ W_Wk G b u) H := hP
  have hD : va_D A (W_Wk G a (r_12, r_27, r_42, r_57, v.2.2.2.2.1, v.2.2.2.2.2) ++ W_Wk G b u) := hD
  refine lv_aload_n hx hb d_Wk_become_60 rfl (lv_at hl 1 rfl) ?_
  refine va_get (D := G.1) (ci := 7) (v := .ref (b 5)) (C := R_Wk) (T := T_Wk) (N := 6) hx hb hts in_Wk hown hK hP 6 rfl rfl 4 (by decide) (hts _ k_98) (fun _ h9 => h9) rfl d_Wk_become_61 ?_
  refine lv_iconst (v := (0 : Int32)) hx hb d_Wk_become_64 (by decide) ?_
  refine lv_aload_n hx hb d_Wk_become_65 rfl (lv_at hl 0 rfl) ?_
  refine va_get (D := G.1) (ci := 7) (v := .ref (a 5)) (C := R_Wk) (T := T_Wk) (N := 6) hx hb hts in_Wk hown hK hP 0 rfl rfl 4 (by decide) (hts _ k_98) (fun _ h9 => h9) rfl d_Wk_become_66 ?_
  refine lv_iconst (v := (0 : Int32)) hx hb d_Wk_become_69 (by decide) ?_
  refine lv_bipush (v := (16 : Int32)) hx hb d_Wk_become_70 (by decide) ?_
  obtain ⟨⟨g1_72, g2_72, g3_72, g4_72, g5_72⟩, hf⟩ := og_e hf
  obtain ⟨r_72, er_72, hf⟩ := nx_e hf
  refine va_copyi (own := "FloodDiary$Works") (index := 31) (ty := .int) hx hb (hml.trans hl.1.symm) hown (hts _ k_265) (hts _ k_255) (hts _ k_254) (hts _ k_11) hK hP hD hS 11 5 0 0 rfl rfl rfl rfl rfl g1_72 g2_72 g3_72 g4_72 g5_72 (fun _ _ => rfl) (Nat.le_of_ble_eq_true rfl) (Nat.le_of_ble_eq_true rfl) d_Wk_become_72 (fun H locs hP hD hS => ?_)
  rw [← er_72] at hP hD
  have hP : va_P G.1 vwCl (W_Wk G a (r_12, r_27, r_42, r_57, r_72, v.2.2.2.2.2) ++ W_Wk G b u) H := hP
  have hD : va_D A (W_Wk G a (r_12, r_27, r_42, r_57, r_72, v.2.2.2.2.2) ++ W_Wk G b u) := hD
  refine lv_aload_n hx hb d_Wk_become_75 rfl (lv_at hl 0 rfl) ?_
  refine lv_aload_n hx hb d_Wk_become_76 rfl (lv_at hl 1 rfl) ?_
  refine va_get (D := G.1) (ci := 7) (v := .int u.2.2.2.2.2) (C := R_Wk) (T := T_Wk) (N := 6) hx hb hts in_Wk hown hK hP 6 rfl rfl 5 (by decide) (hts _ k_99) (fun _ h9 => h9) rfl d_Wk_become_77 ?_
  refine va_put (D := G.1) (ci := 7) (v := .int u.2.2.2.2.2) (ty := .int) (C := R_Wk) (T := T_Wk) (N := 6) hx hb hts in_Wk ty_Wk ty_Wk_ok nm_Wk hown hK hP hD hS 0 rfl rfl 5 (by decide) (hts _ k_99) (fun _ h9 => h9) rfl (ty_Wk_ok 5 (by decide)) rfl rfl (Nat.le_of_ble_eq_true rfl) d_Wk_become_80 (fun H locs hP hD hS => ?_)
  have hP : va_P G.1 vwCl (W_Wk G a (r_12, r_27, r_42, r_57, r_72, u.2.2.2.2.2) ++ W_Wk G b u) H := hP
  have hD : va_D A (W_Wk G a (r_12, r_27, r_42, r_57, r_72, u.2.2.2.2.2) ++ W_Wk G b u) := hD
  cases hf
  exact kV hx hb hr hlk hP hD hS d_Wk_become_83
