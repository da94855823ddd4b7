set_option maxHeartbeats 4000000 in
set_option maxRecDepth 100000 in
theorem t_S0_isFilled (l : Launch) (G : GG) (a : Nat → Nat) (l1 : Int32) (v : V_S0) (q : Int32) (hf : f_S0_isFilled l1 v = some q) : MI l G y_Sl_isFilled c_Sl_isFilled 2 (some .boolean) (rmk 1 20) (W_S0 G a v) [.ref (a 0), .int l1] (W_S0 G a v) (q) := by
  refine ofI "FloodDiary$Slots" (by decide +kernel) rfl (Nat.le_of_ble_eq_true rfl) (fun p e s m args below meth c A ls hx hb hr hml hown hts hlk hK hN hA hP hD hS hl => ?_)
  have hl : lv_has ls 2 [(0, .ref (a 0)), (1, .int l1)] := hl
  unfold f_S0_isFilled at hf
  refine lv_iload_n hx hb d_Sl_isFilled_0 rfl (lv_at hl 1 rfl) ?_
  obtain ⟨q_1, hc_1, hf⟩ := oc_e hf
  refine kcSN (cc := c_Sl_isFilled) (own := "FloodDiary$Slots") (index := 17) (wc := ([] : va_W)) (wr := W_S0 G a v) (wc' := ([] : va_W)) (ws' := W_S0 G a v) hx hb hml hown hts hK hN hA hP hD hS (t_Fd_isSlot l G l1 q_1 hc_1) m_Fd_isSlot nsM_15 ⟨Nat.le_of_ble_eq_true rfl, Nat.le_of_ble_eq_true rfl⟩ (List.Perm.refl _) (List.Perm.refl _) rfl rfl (Nat.le_of_ble_eq_true rfl) hl.1 d_Sl_isFilled_1 ⟨Nat.zero_le _, Nat.zero_le _⟩ (fun H locs hP hD hS => ?_)
  refine lv_if_eq (tgt := 20) hx hb d_Sl_isFilled_4 (by decide) (fun c_4 => ?_) (fun c_4 => ?_)
  · replace hf := ob_et c_4 hf
    refine lv_iconst (v := (0 : Int32)) hx hb d_Sl_isFilled_20 (by decide) ?_
    cases hf
    exact kZ hx hb hr hlk hP hD hS (Or.inl rfl) d_Sl_isFilled_21
  · replace hf := ob_ef c_4 hf
    refine lv_aload_n hx hb d_Sl_isFilled_7 rfl (lv_at hl 0 rfl) ?_
    refine va_get (D := G.1) (ci := 5) (v := .ref (a 1)) (C := R_Sl) (T := T_Sl) (N := 1) hx hb hts in_Sl hown hK hP 0 rfl rfl 0 (by decide) (hts _ k_172) (fun _ h9 => h9) rfl d_Sl_isFilled_8 ?_
    refine lv_iload_n hx hb d_Sl_isFilled_11 rfl (lv_at hl 1 rfl) ?_
    obtain ⟨g_12, hf⟩ := og_e hf
    by_cases e_12_0 : l1.toNatClampNeg = 0
    · replace hf := ob_et e_12_0 hf
      refine va_aldq (C := "FloodDiary$State") hx hb hK hP 1 3 rfl rfl g_12 d_Sl_isFilled_12 ?_
      refine W.eq (g2 := F0 m 13 ls [.null]) (by first | (rw [e_12_0]; rfl) | rfl) ?_
      refine lv_ifnullN (tgt := 20) hx hb d_Sl_isFilled_13 (by decide) ?_
      refine lv_iconst (v := (0 : Int32)) hx hb d_Sl_isFilled_20 (by decide) ?_
      cases hf
      exact kZ hx hb hr hlk hP hD hS (Or.inl rfl) d_Sl_isFilled_21
    · replace hf := ob_ef e_12_0 hf
      by_cases e_12_1 : l1.toNatClampNeg = 1
      · replace hf := ob_et e_12_1 hf
        refine va_aldq (C := "FloodDiary$State") hx hb hK hP 1 3 rfl rfl g_12 d_Sl_isFilled_12 ?_
        refine W.eq (g2 := F0 m 13 ls [.null]) (by first | (rw [e_12_1]; rfl) | rfl) ?_
        refine lv_ifnullN (tgt := 20) hx hb d_Sl_isFilled_13 (by decide) ?_
        refine lv_iconst (v := (0 : Int32)) hx hb d_Sl_isFilled_20 (by decide) ?_
        cases hf
        exact kZ hx hb hr hlk hP hD hS (Or.inl rfl) d_Sl_isFilled_21
      · replace hf := ob_ef e_12_1 hf
        cases hf
set_option maxHeartbeats 4000000 in
set_option maxRecDepth 100000 in
theorem t_S0_fetch (l : Launch) (G : GG) (a : Nat → Nat) (b : Nat → Nat) (l1 : Int32) (v : V_S0) (u : V_St) (q : V_St) (hf : f_S0_fetch l1 v u = some q) : MV l G y_Sl_fetch c_Sl_fetch 4 (rmk 1 20) (W_S0 G a v ++ W_St G b u) [.ref (a 0), .int l1, .ref (b 0)] (W_S0 G a v ++ W_St G b q) := by
  refine ofV "FloodDiary$Slots" (by decide +kernel) rfl (Nat.le_of_ble_eq_true rfl) (fun p e s m args below meth c A ls hx hb hr hml hown hts hlk hK hN hA hP hD hS hl => ?_)
  have hl : lv_has ls 4 [(0, .ref (a 0)), (1, .int l1), (2, .ref (b 0))] := hl
  unfold f_S0_fetch at hf
  refine lv_iload_n hx hb d_Sl_fetch_0 rfl (lv_at hl 1 rfl) ?_
  obtain ⟨q_1, hc_1, hf⟩ := oc_e hf
  refine kcSN (cc := c_Sl_fetch) (own := "FloodDiary$Slots") (index := 17) (wc := ([] : va_W)) (wr := W_S0 G a v ++ W_St G b u) (wc' := ([] : va_W)) (ws' := W_S0 G a v ++ W_St G b u) hx hb hml hown hts hK hN hA hP hD hS (t_Fd_isSlot l G l1 q_1 hc_1) m_Fd_isSlot nsM_15 ⟨Nat.le_of_ble_eq_true rfl, Nat.le_of_ble_eq_true rfl⟩ (List.Perm.refl _) (List.Perm.refl _) rfl rfl (Nat.le_of_ble_eq_true rfl) hl.1 d_Sl_fetch_1 ⟨Nat.zero_le _, Nat.zero_le _⟩ (fun H locs hP hD hS => ?_)
  refine lv_if_eq (tgt := 23) hx hb d_Sl_fetch_4 (by decide) (fun c_4 => ?_) (fun c_4 => ?_)
  · replace hf := ob_et c_4 hf
    cases hf
    exact kV hx hb hr hlk hP hD hS d_Sl_fetch_23
  · replace hf := ob_ef c_4 hf
    refine lv_aload_n hx hb d_Sl_fetch_7 rfl (lv_at hl 0 rfl) ?_
    refine va_get (D := G.1) (ci := 5) (v := .ref (a 1)) (C := R_Sl) (T := T_Sl) (N := 1) hx hb hts in_Sl hown hK hP 0 rfl rfl 0 (by decide) (hts _ k_172) (fun _ h9 => h9) rfl d_Sl_fetch_8 ?_
    refine lv_iload_n hx hb d_Sl_fetch_11 rfl (lv_at hl 1 rfl) ?_
    obtain ⟨g_12, hf⟩ := og_e hf
    by_cases e_12_0 : l1.toNatClampNeg = 0
    · replace hf := ob_et e_12_0 hf
      refine va_aldq (C := "FloodDiary$State") hx hb hK hP 1 3 rfl rfl g_12 d_Sl_fetch_12 ?_
      refine W.eq (g2 := F0 m 13 ls [.null]) (by first | (rw [e_12_0]; rfl) | rfl) ?_
      refine lv_astore_nN (lv' := [(3, .null), (0, .ref (a 0)), (1, .int l1), (2, .ref (b 0))]) hx hb d_Sl_fetch_13 rfl hl (by decide) rfl (fun ls hl => ?_)
      refine lv_aload_nN hx hb d_Sl_fetch_14 rfl (lv_at hl 0 rfl) ?_
      refine lv_ifnullN (tgt := 23) hx hb d_Sl_fetch_15 (by decide) ?_
      cases hf
      exact kV hx hb hr hlk hP hD hS d_Sl_fetch_23
    · replace hf := ob_ef e_12_0 hf
      by_cases e_12_1 : l1.toNatClampNeg = 1
      · replace hf := ob_et e_12_1 hf
        refine va_aldq (C := "FloodDiary$State") hx hb hK hP 1 3 rfl rfl g_12 d_Sl_fetch_12 ?_
        refine W.eq (g2 := F0 m 13 ls [.null]) (by first | (rw [e_12_1]; rfl) | rfl) ?_
        refine lv_astore_nN (lv' := [(3, .null), (0, .ref (a 0)), (1, .int l1), (2, .ref (b 0))]) hx hb d_Sl_fetch_13 rfl hl (by decide) rfl (fun ls hl => ?_)
        refine lv_aload_nN hx hb d_Sl_fetch_14 rfl (lv_at hl 0 rfl) ?_
        refine lv_ifnullN (tgt := 23) hx hb d_Sl_fetch_15 (by decide) ?_
        cases hf
        exact kV hx hb hr hlk hP hD hS d_Sl_fetch_23
      · replace hf := ob_ef e_12_1 hf
        cases hf
set_option maxHeartbeats 4000000 in
set_option maxRecDepth 100000 in
theorem t_S1_isFilled (l : Launch) (G : GG) (a : Nat → Nat) (l1 : Int32) (v : V_S1) (q : Int32) (hf : f_S1_isFilled l1 v = some q) : MI l G y_Sl_isFilled c_Sl_isFilled 2 (some .boolean) (rmk 1 20) (W_S1 G a v) [.ref (a 0), .int l1] (W_S1 G a v) (q) := by
  refine ofI "FloodDiary$Slots" (by decide +kernel) rfl (Nat.le_of_ble_eq_true rfl) (fun p e s m args below meth c A ls hx hb hr hml hown hts hlk hK hN hA hP hD hS hl => ?_)
  have hl : lv_has ls 2 [(0, .ref (a 0)), (1, .int l1)] := hl
  unfold f_S1_isFilled at hf
  refine lv_iload_n hx hb d_Sl_isFilled_0 rfl (lv_at hl 1 rfl) ?_
  obtain ⟨q_1, hc_1, hf⟩ := oc_e hf
  refine kcSN (cc := c_Sl_isFilled) (own := "FloodDiary$Slots") (index := 17) (wc := ([] : va_W)) (wr := W_S1 G a v) (wc' := ([] : va_W)) (ws' := W_S1 G a v) hx hb hml hown hts hK hN hA hP hD hS (t_Fd_isSlot l G l1 q_1 hc_1) m_Fd_isSlot nsM_15 ⟨Nat.le_of_ble_eq_true rfl, Nat.le_of_ble_eq_true rfl⟩ (List.Perm.refl _) (List.Perm.refl _) rfl rfl (Nat.le_of_ble_eq_true rfl) hl.1 d_Sl_isFilled_1 ⟨Nat.zero_le _, Nat.zero_le _⟩ (fun H locs hP hD hS => ?_)
  refine lv_if_eq (tgt := 20) hx hb d_Sl_isFilled_4 (by decide) (fun c_4 => ?_) (fun c_4 => ?_)
  · replace hf := ob_et c_4 hf
    refine lv_iconst (v := (0 : Int32)) hx hb d_Sl_isFilled_20 (by decide) ?_
    cases hf
    exact kZ hx hb hr hlk hP hD hS (Or.inl rfl) d_Sl_isFilled_21
  · replace hf := ob_ef c_4 hf
    refine lv_aload_n hx hb d_Sl_isFilled_7 rfl (lv_at hl 0 rfl) ?_
    refine va_get (D := G.1) (ci := 5) (v := .ref (a 1)) (C := R_Sl) (T := T_Sl) (N := 1) hx hb hts in_Sl hown hK hP 0 rfl rfl 0 (by decide) (hts _ k_172) (fun _ h9 => h9) rfl d_Sl_isFilled_8 ?_
    refine lv_iload_n hx hb d_Sl_isFilled_11 rfl (lv_at hl 1 rfl) ?_
    obtain ⟨g_12, hf⟩ := og_e hf
    by_cases e_12_0 : l1.toNatClampNeg = 0
    · replace hf := ob_et e_12_0 hf
      refine va_aldq (C := "FloodDiary$State") hx hb hK hP 1 3 rfl rfl g_12 d_Sl_isFilled_12 ?_
      refine W.eq (g2 := F0 m 13 ls [.ref (a 2)]) (by first | (rw [e_12_0]; rfl) | rfl) ?_
      refine lv_ifnull hx hb d_Sl_isFilled_13 ?_
      refine lv_iconst (v := (1 : Int32)) hx hb d_Sl_isFilled_16 (by decide) ?_
      refine lv_goto (tgt := 21) hx hb d_Sl_isFilled_17 (by decide) ?_
      cases hf
      exact kZ hx hb hr hlk hP hD hS (Or.inr rfl) d_Sl_isFilled_21
    · replace hf := ob_ef e_12_0 hf
      by_cases e_12_1 : l1.toNatClampNeg = 1
      · replace hf := ob_et e_12_1 hf
        refine va_aldq (C := "FloodDiary$State") hx hb hK hP 1 3 rfl rfl g_12 d_Sl_isFilled_12 ?_
        refine W.eq (g2 := F0 m 13 ls [.null]) (by first | (rw [e_12_1]; rfl) | rfl) ?_
        refine lv_ifnullN (tgt := 20) hx hb d_Sl_isFilled_13 (by decide) ?_
        refine lv_iconst (v := (0 : Int32)) hx hb d_Sl_isFilled_20 (by decide) ?_
        cases hf
        exact kZ hx hb hr hlk hP hD hS (Or.inl rfl) d_Sl_isFilled_21
      · replace hf := ob_ef e_12_1 hf
        cases hf
theorem pm_41 (x0 x1 x2 : va_W) : List.Perm ((x0 ++ (x1 ++ (([] : va_W)))) ++ (x2)) ((x2 ++ x1) ++ (x0 ++ (([] : va_W)))) := prm (fun d z => by first | (simp only [List.count_append, List.count_nil]; omega) | simp only [List.count_append, List.count_nil])
set_option maxHeartbeats 4000000 in
set_option maxRecDepth 100000 in
theorem t_S1_fetch (l : Launch) (G : GG) (a : Nat → Nat) (b : Nat → Nat) (l1 : Int32) (v : V_S1) (u : V_St) (q : V_St) (hf : f_S1_fetch l1 v u = some q) : MV l G y_Sl_fetch c_Sl_fetch 4 (rmk 3 61) (W_S1 G a v ++ W_St G b u) [.ref (a 0), .int l1, .ref (b 0)] (W_S1 G a v ++ W_St G b q) := by
  refine ofV "FloodDiary$Slots" (by decide +kernel) rfl (Nat.le_of_ble_eq_true rfl) (fun p e s m args below meth c A ls hx hb hr hml hown hts hlk hK hN hA hP hD hS hl => ?_)
  have hl : lv_has ls 4 [(0, .ref (a 0)), (1, .int l1), (2, .ref (b 0))] := hl
  unfold f_S1_fetch at hf
  refine lv_iload_n hx hb d_Sl_fetch_0 rfl (lv_at hl 1 rfl) ?_
  obtain ⟨q_1, hc_1, hf⟩ := oc_e hf
  refine kcSN (cc := c_Sl_fetch) (own := "FloodDiary$Slots") (index := 17) (wc := ([] : va_W)) (wr := W_S1 G a v ++ W_St G b u) (wc' := ([] : va_W)) (ws' := W_S1 G a v ++ W_St G b u) hx hb hml hown hts hK hN hA hP hD hS (t_Fd_isSlot l G l1 q_1 hc_1) m_Fd_isSlot nsM_15 ⟨Nat.le_of_ble_eq_true rfl, Nat.le_of_ble_eq_true rfl⟩ (List.Perm.refl _) (List.Perm.refl _) rfl rfl (Nat.le_of_ble_eq_true rfl) hl.1 d_Sl_fetch_1 ⟨Nat.zero_le _, Nat.zero_le _⟩ (fun H locs hP hD hS => ?_)
  refine lv_if_eq (tgt := 23) hx hb d_Sl_fetch_4 (by decide) (fun c_4 => ?_) (fun c_4 => ?_)
  · replace hf := ob_et c_4 hf
    cases hf
    exact kV hx hb hr hlk hP hD hS d_Sl_fetch_23
  · replace hf := ob_ef c_4 hf
    refine lv_aload_n hx hb d_Sl_fetch_7 rfl (lv_at hl 0 rfl) ?_
    refine va_get (D := G.1) (ci := 5) (v := .ref (a 1)) (C := R_Sl) (T := T_Sl) (N := 1) hx hb hts in_Sl hown hK hP 0 rfl rfl 0 (by decide) (hts _ k_172) (fun _ h9 => h9) rfl d_Sl_fetch_8 ?_
    refine lv_iload_n hx hb d_Sl_fetch_11 rfl (lv_at hl 1 rfl) ?_
    obtain ⟨g_12, hf⟩ := og_e hf
    by_cases e_12_0 : l1.toNatClampNeg = 0
    · replace hf := ob_et e_12_0 hf
      refine va_aldq (C := "FloodDiary$State") hx hb hK hP 1 3 rfl rfl g_12 d_Sl_fetch_12 ?_
      refine W.eq (g2 := F0 m 13 ls [.ref (a 2)]) (by first | (rw [e_12_0]; rfl) | rfl) ?_
      refine lv_astore_n (lv' := [(3, .ref (a 2)), (0, .ref (a 0)), (1, .int l1), (2, .ref (b 0))]) hx hb d_Sl_fetch_13 rfl hl (by decide) rfl (fun ls hl => ?_)
      refine lv_aload_n hx hb d_Sl_fetch_14 rfl (lv_at hl 0 rfl) ?_
      refine lv_ifnull hx hb d_Sl_fetch_15 ?_
      refine lv_aload_n hx hb d_Sl_fetch_18 rfl (lv_at hl 3 rfl) ?_
      refine lv_aload_n hx hb d_Sl_fetch_19 rfl (lv_at hl 0 rfl) ?_
      obtain ⟨q_20, hc_20, hf⟩ := oc_e hf
      refine kcVv (cc := c_Sl_fetch) (own := "FloodDiary$Slots") (index := 22) (wc := W_St G b u ++ W_St G (sh a 2) v) (wr := O_S1 G a v ++ (([] : va_W))) (wc' := W_St G b q_20 ++ W_St G (sh a 2) v) (ws' := W_S1 G a v ++ W_St G b q_20) hx hb hml hown hts hK hN hA hP hD hS (t_St_become l G b (sh a 2) u v q_20 hc_20) m_St_become k_734 ⟨Nat.le_of_ble_eq_true rfl, Nat.le_of_ble_eq_true rfl⟩ (pm_41 (O_S1 G a v) (W_St G (sh a 2) v) (W_St G b u)) (pm_41 (O_S1 G a v) (W_St G (sh a 2) v) (W_St G b q_20)).symm 6 0 rfl rfl rfl rfl rfl (Nat.le_of_ble_eq_true rfl) hl.1 d_Sl_fetch_20 ⟨Nat.zero_le _, Nat.zero_le _⟩ (fun H locs hP hD hS => ?_)
      cases hf
      exact kV hx hb hr hlk hP hD hS d_Sl_fetch_23
    · replace hf := ob_ef e_12_0 hf
      by_cases e_12_1 : l1.toNatClampNeg = 1
      · replace hf := ob_et e_12_1 hf
        refine va_aldq (C := "FloodDiary$State") hx hb hK hP 1 3 rfl rfl g_12 d_Sl_fetch_12 ?_
        refine W.eq (g2 := F0 m 13 ls [.null]) (by first | (rw [e_12_1]; rfl) | rfl) ?_
        refine lv_astore_nN (lv' := [(3, .null), (0, .ref (a 0)), (1, .int l1), (2, .ref (b 0))]) hx hb d_Sl_fetch_13 rfl hl (by decide) rfl (fun ls hl => ?_)
        refine lv_aload_nN hx hb d_Sl_fetch_14 rfl (lv_at hl 0 rfl) ?_
        refine lv_ifnullN (tgt := 23) hx hb d_Sl_fetch_15 (by decide) ?_
        cases hf
        exact kV hx hb hr hlk hP hD hS d_Sl_fetch_23
      · replace hf := ob_ef e_12_1 hf
        cases hf
set_option maxHeartbeats 4000000 in
set_option maxRecDepth 100000 in
theorem t_S2_isFilled (l : Launch) (G : GG) (a : Nat → Nat) (l1 : Int32) (v : V_S2) (q : Int32) (hf : f_S2_isFilled l1 v = some q) : MI l G y_Sl_isFilled c_Sl_isFilled 2 (some .boolean) (rmk 1 20) (W_S2 G a v) [.ref (a 0), .int l1] (W_S2 G a v) (q) := by
  refine ofI "FloodDiary$Slots" (by decide +kernel) rfl (Nat.le_of_ble_eq_true rfl) (fun p e s m args below meth c A ls hx hb hr hml hown hts hlk hK hN hA hP hD hS hl => ?_)
  have hl : lv_has ls 2 [(0, .ref (a 0)), (1, .int l1)] := hl
  unfold f_S2_isFilled at hf
  refine lv_iload_n hx hb d_Sl_isFilled_0 rfl (lv_at hl 1 rfl) ?_
  obtain ⟨q_1, hc_1, hf⟩ := oc_e hf
  refine kcSN (cc := c_Sl_isFilled) (own := "FloodDiary$Slots") (index := 17) (wc := ([] : va_W)) (wr := W_S2 G a v) (wc' := ([] : va_W)) (ws' := W_S2 G a v) hx hb hml hown hts hK hN hA hP hD hS (t_Fd_isSlot l G l1 q_1 hc_1) m_Fd_isSlot nsM_15 ⟨Nat.le_of_ble_eq_true rfl, Nat.le_of_ble_eq_true rfl⟩ (List.Perm.refl _) (List.Perm.refl _) rfl rfl (Nat.le_of_ble_eq_true rfl) hl.1 d_Sl_isFilled_1 ⟨Nat.zero_le _, Nat.zero_le _⟩ (fun H locs hP hD hS => ?_)
  refine lv_if_eq (tgt := 20) hx hb d_Sl_isFilled_4 (by decide) (fun c_4 => ?_) (fun c_4 => ?_)
  · replace hf := ob_et c_4 hf
    refine lv_iconst (v := (0 : Int32)) hx hb d_Sl_isFilled_20 (by decide) ?_
    cases hf
    exact kZ hx hb hr hlk hP hD hS (Or.inl rfl) d_Sl_isFilled_21
  · replace hf := ob_ef c_4 hf
    refine lv_aload_n hx hb d_Sl_isFilled_7 rfl (lv_at hl 0 rfl) ?_
    refine va_get (D := G.1) (ci := 5) (v := .ref (a 1)) (C := R_Sl) (T := T_Sl) (N := 1) hx hb hts in_Sl hown hK hP 0 rfl rfl 0 (by decide) (hts _ k_172) (fun _ h9 => h9) rfl d_Sl_isFilled_8 ?_
    refine lv_iload_n hx hb d_Sl_isFilled_11 rfl (lv_at hl 1 rfl) ?_
    obtain ⟨g_12, hf⟩ := og_e hf
    by_cases e_12_0 : l1.toNatClampNeg = 0
    · replace hf := ob_et e_12_0 hf
      refine va_aldq (C := "FloodDiary$State") hx hb hK hP 1 3 rfl rfl g_12 d_Sl_isFilled_12 ?_
      refine W.eq (g2 := F0 m 13 ls [.null]) (by first | (rw [e_12_0]; rfl) | rfl) ?_
      refine lv_ifnullN (tgt := 20) hx hb d_Sl_isFilled_13 (by decide) ?_
      refine lv_iconst (v := (0 : Int32)) hx hb d_Sl_isFilled_20 (by decide) ?_
      cases hf
      exact kZ hx hb hr hlk hP hD hS (Or.inl rfl) d_Sl_isFilled_21
    · replace hf := ob_ef e_12_0 hf
      by_cases e_12_1 : l1.toNatClampNeg = 1
      · replace hf := ob_et e_12_1 hf
        refine va_aldq (C := "FloodDiary$State") hx hb hK hP 1 3 rfl rfl g_12 d_Sl_isFilled_12 ?_
        refine W.eq (g2 := F0 m 13 ls [.ref (a 2)]) (by first | (rw [e_12_1]; rfl) | rfl) ?_
        refine lv_ifnull hx hb d_Sl_isFilled_13 ?_
        refine lv_iconst (v := (1 : Int32)) hx hb d_Sl_isFilled_16 (by decide) ?_
        refine lv_goto (tgt := 21) hx hb d_Sl_isFilled_17 (by decide) ?_
        cases hf
        exact kZ hx hb hr hlk hP hD hS (Or.inr rfl) d_Sl_isFilled_21
      · replace hf := ob_ef e_12_1 hf
        cases hf
set_option maxHeartbeats 4000000 in
set_option maxRecDepth 100000 in
theorem t_S2_fetch (l : Launch) (G : GG) (a : Nat → Nat) (b : Nat → Nat) (l1 : Int32) (v : V_S2) (u : V_St) (q : V_St) (hf : f_S2_fetch l1 v u = some q) : MV l G y_Sl_fetch c_Sl_fetch 4 (rmk 3 61) (W_S2 G a v ++ W_St G b u) [.ref (a 0), .int l1, .ref (b 0)] (W_S2 G a v ++ W_St G b q) := by
  refine ofV "FloodDiary$Slots" (by decide +kernel) rfl (Nat.le_of_ble_eq_true rfl) (fun p e s m args below meth c A ls hx hb hr hml hown hts hlk hK hN hA hP hD hS hl => ?_)
  have hl : lv_has ls 4 [(0, .ref (a 0)), (1, .int l1), (2, .ref (b 0))] := hl
  unfold f_S2_fetch at hf
  refine lv_iload_n hx hb d_Sl_fetch_0 rfl (lv_at hl 1 rfl) ?_
  obtain ⟨q_1, hc_1, hf⟩ := oc_e hf
  refine kcSN (cc := c_Sl_fetch) (own := "FloodDiary$Slots") (index := 17) (wc := ([] : va_W)) (wr := W_S2 G a v ++ W_St G b u) (wc' := ([] : va_W)) (ws' := W_S2 G a v ++ W_St G b u) hx hb hml hown hts hK hN hA hP hD hS (t_Fd_isSlot l G l1 q_1 hc_1) m_Fd_isSlot nsM_15 ⟨Nat.le_of_ble_eq_true rfl, Nat.le_of_ble_eq_true rfl⟩ (List.Perm.refl _) (List.Perm.refl _) rfl rfl (Nat.le_of_ble_eq_true rfl) hl.1 d_Sl_fetch_1 ⟨Nat.zero_le _, Nat.zero_le _⟩ (fun H locs hP hD hS => ?_)
  refine lv_if_eq (tgt := 23) hx hb d_Sl_fetch_4 (by decide) (fun c_4 => ?_) (fun c_4 => ?_)
  · replace hf := ob_et c_4 hf
    cases hf
    exact kV hx hb hr hlk hP hD hS d_Sl_fetch_23
  · replace hf := ob_ef c_4 hf
    refine lv_aload_n hx hb d_Sl_fetch_7 rfl (lv_at hl 0 rfl) ?_
    refine va_get (D := G.1) (ci := 5) (v := .ref (a 1)) (C := R_Sl) (T := T_Sl) (N := 1) hx hb hts in_Sl hown hK hP 0 rfl rfl 0 (by decide) (hts _ k_172) (fun _ h9 => h9) rfl d_Sl_fetch_8 ?_
    refine lv_iload_n hx hb d_Sl_fetch_11 rfl (lv_at hl 1 rfl) ?_
    obtain ⟨g_12, hf⟩ := og_e hf
    by_cases e_12_0 : l1.toNatClampNeg = 0
    · replace hf := ob_et e_12_0 hf
      refine va_aldq (C := "FloodDiary$State") hx hb hK hP 1 3 rfl rfl g_12 d_Sl_fetch_12 ?_
      refine W.eq (g2 := F0 m 13 ls [.null]) (by first | (rw [e_12_0]; rfl) | rfl) ?_
      refine lv_astore_nN (lv' := [(3, .null), (0, .ref (a 0)), (1, .int l1), (2, .ref (b 0))]) hx hb d_Sl_fetch_13 rfl hl (by decide) rfl (fun ls hl => ?_)
      refine lv_aload_nN hx hb d_Sl_fetch_14 rfl (lv_at hl 0 rfl) ?_
      refine lv_ifnullN (tgt := 23) hx hb d_Sl_fetch_15 (by decide) ?_
      cases hf
      exact kV hx hb hr hlk hP hD hS d_Sl_fetch_23
    · replace hf := ob_ef e_12_0 hf
      by_cases e_12_1 : l1.toNatClampNeg = 1
      · replace hf := ob_et e_12_1 hf
        refine va_aldq (C := "FloodDiary$State") hx hb hK hP 1 3 rfl rfl g_12 d_Sl_fetch_12 ?_
        refine W.eq (g2 := F0 m 13 ls [.ref (a 2)]) (by first | (rw [e_12_1]; rfl) | rfl) ?_
        refine lv_astore_n (lv' := [(3, .ref (a 2)), (0, .ref (a 0)), (1, .int l1), (2, .ref (b 0))]) hx hb d_Sl_fetch_13 rfl hl (by decide) rfl (fun ls hl => ?_)
        refine lv_aload_n hx hb d_Sl_fetch_14 rfl (lv_at hl 0 rfl) ?_
        refine lv_ifnull hx hb d_Sl_fetch_15 ?_
        refine lv_aload_n hx hb d_Sl_fetch_18 rfl (lv_at hl 3 rfl) ?_
        refine lv_aload_n hx hb d_Sl_fetch_19 rfl (lv_at hl 0 rfl) ?_
        obtain ⟨q_20, hc_20, hf⟩ := oc_e hf
        refine kcVv (cc := c_Sl_fetch) (own := "FloodDiary$Slots") (index := 22) (wc := W_St G b u ++ W_St G (sh a 2) v) (wr := O_S2 G a v ++ (([] : va_W))) (wc' := W_St G b q_20 ++ W_St G (sh a 2) v) (ws' := W_S2 G a v ++ W_St G b q_20) hx hb hml hown hts hK hN hA hP hD hS (t_St_become l G b (sh a 2) u v q_20 hc_20) m_St_become k_734 ⟨Nat.le_of_ble_eq_true rfl, Nat.le_of_ble_eq_true rfl⟩ (pm_41 (O_S2 G a v) (W_St G (sh a 2) v) (W_St G b u)) (pm_41 (O_S2 G a v) (W_St G (sh a 2) v) (W_St G b q_20)).symm 6 0 rfl rfl rfl rfl rfl (Nat.le_of_ble_eq_true rfl) hl.1 d_Sl_fetch_20 ⟨Nat.zero_le _, Nat.zero_le _⟩ (fun H locs hP hD hS => ?_)
        cases hf
        exact kV hx hb hr hlk hP hD hS d_Sl_fetch_23
      · replace hf := ob_ef e_12_1 hf
        cases hf
set_option maxHeartbeats 4000000 in
set_option maxRecDepth 100000 in
theorem t_S3_isFilled (l : Launch) (G : GG) (a : Nat → Nat) (l1 : Int32) (v : V_S3) (q : Int32) (hf : f_S3_isFilled l1 v = some q) : MI l G y_Sl_isFilled c_Sl_isFilled 2 (some .boolean) (rmk 1 20) (W_S3 G a v) [.ref (a 0), .int l1] (W_S3 G a v) (q) := by
  refine ofI "FloodDiary$Slots" (by decide +kernel) rfl (Nat.le_of_ble_eq_true rfl) (fun p e s m args below meth c A ls hx hb hr hml hown hts hlk hK hN hA hP hD hS hl => ?_)
  have hl : lv_has ls 2 [(0, .ref (a 0)), (1, .int l1)] := hl
  unfold f_S3_isFilled at hf
  refine lv_iload_n hx hb d_Sl_isFilled_0 rfl (lv_at hl 1 rfl) ?_
  obtain ⟨q_1, hc_1, hf⟩ := oc_e hf
  refine kcSN (cc := c_Sl_isFilled) (own := "FloodDiary$Slots") (index := 17) (wc := ([] : va_W)) (wr := W_S3 G a v) (wc' := ([] : va_W)) (ws' := W_S3 G a v) hx hb hml hown hts hK hN hA hP hD hS (t_Fd_isSlot l G l1 q_1 hc_1) m_Fd_isSlot nsM_15 ⟨Nat.le_of_ble_eq_true rfl, Nat.le_of_ble_eq_true rfl⟩ (List.Perm.refl _) (List.Perm.refl _) rfl rfl (Nat.le_of_ble_eq_true rfl) hl.1 d_Sl_isFilled_1 ⟨Nat.zero_le _, Nat.zero_le _⟩ (fun H locs hP hD hS => ?_)
  refine lv_if_eq (tgt := 20) hx hb d_Sl_isFilled_4 (by decide) (fun c_4 => ?_) (fun c_4 => ?_)
  · replace hf := ob_et c_4 hf
    refine lv_iconst (v := (0 : Int32)) hx hb d_Sl_isFilled_20 (by decide) ?_
    cases hf
    exact kZ hx hb hr hlk hP hD hS (Or.inl rfl) d_Sl_isFilled_21
  · replace hf := ob_ef c_4 hf
    refine lv_aload_n hx hb d_Sl_isFilled_7 rfl (lv_at hl 0 rfl) ?_
    refine va_get (D := G.1) (ci := 5) (v := .ref (a 1)) (C := R_Sl) (T := T_Sl) (N := 1) hx hb hts in_Sl hown hK hP 0 rfl rfl 0 (by decide) (hts _ k_172) (fun _ h9 => h9) rfl d_Sl_isFilled_8 ?_
    refine lv_iload_n hx hb d_Sl_isFilled_11 rfl (lv_at hl 1 rfl) ?_
    obtain ⟨g_12, hf⟩ := og_e hf
    by_cases e_12_0 : l1.toNatClampNeg = 0
    · replace hf := ob_et e_12_0 hf
      refine va_aldq (C := "FloodDiary$State") hx hb hK hP 1 3 rfl rfl g_12 d_Sl_isFilled_12 ?_
      refine W.eq (g2 := F0 m 13 ls [.ref (a 2)]) (by first | (rw [e_12_0]; rfl) | rfl) ?_
      refine lv_ifnull hx hb d_Sl_isFilled_13 ?_
      refine lv_iconst (v := (1 : Int32)) hx hb d_Sl_isFilled_16 (by decide) ?_
      refine lv_goto (tgt := 21) hx hb d_Sl_isFilled_17 (by decide) ?_
      cases hf
      exact kZ hx hb hr hlk hP hD hS (Or.inr rfl) d_Sl_isFilled_21
    · replace hf := ob_ef e_12_0 hf
      by_cases e_12_1 : l1.toNatClampNeg = 1
      · replace hf := ob_et e_12_1 hf
        refine va_aldq (C := "FloodDiary$State") hx hb hK hP 1 3 rfl rfl g_12 d_Sl_isFilled_12 ?_
        refine W.eq (g2 := F0 m 13 ls [.ref (a 22)]) (by first | (rw [e_12_1]; rfl) | rfl) ?_
        refine lv_ifnull hx hb d_Sl_isFilled_13 ?_
        refine lv_iconst (v := (1 : Int32)) hx hb d_Sl_isFilled_16 (by decide) ?_
        refine lv_goto (tgt := 21) hx hb d_Sl_isFilled_17 (by decide) ?_
        cases hf
        exact kZ hx hb hr hlk hP hD hS (Or.inr rfl) d_Sl_isFilled_21
      · replace hf := ob_ef e_12_1 hf
        cases hf
theorem pm_42 (x0 x1 x2 x3 : va_W) : List.Perm ((x0 ++ (x1 ++ (x2 ++ (([] : va_W))))) ++ (x3)) ((x3 ++ x1) ++ (x0 ++ (x2 ++ (([] : va_W))))) := prm (fun d z => by first | (simp only [List.count_append, List.count_nil]; omega) | simp only [List.count_append, List.count_nil])
theorem pm_43 (x0 x1 x2 x3 : va_W) : List.Perm ((x0 ++ (x1 ++ (x2 ++ (([] : va_W))))) ++ (x3)) ((x3 ++ x2) ++ (x0 ++ (x1 ++ (([] : va_W))))) := prm (fun d z => by first | (simp only [List.count_append, List.count_nil]; omega) | simp only [List.count_append, List.count_nil])
set_option maxHeartbeats 4000000 in
set_option maxRecDepth 100000 in
theorem t_S3_fetch (l : Launch) (G : GG) (a : Nat → Nat) (b : Nat → Nat) (l1 : Int32) (v : V_S3) (u : V_St) (q : V_St) (hf : f_S3_fetch l1 v u = some q) : MV l G y_Sl_fetch c_Sl_fetch 4 (rmk 3 61) (W_S3 G a v ++ W_St G b u) [.ref (a 0), .int l1, .ref (b 0)] (W_S3 G a v ++ W_St G b q) := by
  refine ofV "FloodDiary$Slots" (by decide +kernel) rfl (Nat.le_of_ble_eq_true rfl) (fun p e s m args below meth c A ls hx hb hr hml hown hts hlk hK hN hA hP hD hS hl => ?_)
  have hl : lv_has ls 4 [(0, .ref (a 0)), (1, .int l1), (2, .ref (b 0))] := hl
  unfold f_S3_fetch at hf
  refine lv_iload_n hx hb d_Sl_fetch_0 rfl (lv_at hl 1 rfl) ?_
  obtain ⟨q_1, hc_1, hf⟩ := oc_e hf
  refine kcSN (cc := c_Sl_fetch) (own := "FloodDiary$Slots") (index := 17) (wc := ([] : va_W)) (wr := W_S3 G a v ++ W_St G b u) (wc' := ([] : va_W)) (ws' := W_S3 G a v ++ W_St G b u) hx hb hml hown hts hK hN hA hP hD hS (t_Fd_isSlot l G l1 q_1 hc_1) m_Fd_isSlot nsM_15 ⟨Nat.le_of_ble_eq_true rfl, Nat.le_of_ble_eq_true rfl⟩ (List.Perm.refl _) (List.Perm.refl _) rfl rfl (Nat.le_of_ble_eq_true rfl) hl.1 d_Sl_fetch_1 ⟨Nat.zero_le _, Nat.zero_le _⟩ (fun H locs hP hD hS => ?_)
  refine lv_if_eq (tgt := 23) hx hb d_Sl_fetch_4 (by decide) (fun c_4 => ?_) (fun c_4 => ?_)
  · replace hf := ob_et c_4 hf
    cases hf
    exact kV hx hb hr hlk hP hD hS d_Sl_fetch_23
  · replace hf := ob_ef c_4 hf
    refine lv_aload_n hx hb d_Sl_fetch_7 rfl (lv_at hl 0 rfl) ?_
    refine va_get (D := G.1) (ci := 5) (v := .ref (a 1)) (C := R_Sl) (T := T_Sl) (N := 1) hx hb hts in_Sl hown hK hP 0 rfl rfl 0 (by decide) (hts _ k_172) (fun _ h9 => h9) rfl d_Sl_fetch_8 ?_
    refine lv_iload_n hx hb d_Sl_fetch_11 rfl (lv_at hl 1 rfl) ?_
    obtain ⟨g_12, hf⟩ := og_e hf
    by_cases e_12_0 : l1.toNatClampNeg = 0
    · replace hf := ob_et e_12_0 hf
      refine va_aldq (C := "FloodDiary$State") hx hb hK hP 1 3 rfl rfl g_12 d_Sl_fetch_12 ?_
      refine W.eq (g2 := F0 m 13 ls [.ref (a 2)]) (by first | (rw [e_12_0]; rfl) | rfl) ?_
      refine lv_astore_n (lv' := [(3, .ref (a 2)), (0, .ref (a 0)), (1, .int l1), (2, .ref (b 0))]) hx hb d_Sl_fetch_13 rfl hl (by decide) rfl (fun ls hl => ?_)
      refine lv_aload_n hx hb d_Sl_fetch_14 rfl (lv_at hl 0 rfl) ?_
      refine lv_ifnull hx hb d_Sl_fetch_15 ?_
      refine lv_aload_n hx hb d_Sl_fetch_18 rfl (lv_at hl 3 rfl) ?_
      refine lv_aload_n hx hb d_Sl_fetch_19 rfl (lv_at hl 0 rfl) ?_
      obtain ⟨q_20, hc_20, hf⟩ := oc_e hf
      refine kcVv (cc := c_Sl_fetch) (own := "FloodDiary$Slots") (index := 22) (wc := W_St G b u ++ W_St G (sh a 2) v.1) (wr := O_S3 G a v ++ (W_St G (sh a 22) v.2 ++ (([] : va_W)))) (wc' := W_St G b q_20 ++ W_St G (sh a 2) v.1) (ws' := W_S3 G a v ++ W_St G b q_20) hx hb hml hown hts hK hN hA hP hD hS (t_St_become l G b (sh a 2) u v.1 q_20 hc_20) m_St_become k_734 ⟨Nat.le_of_ble_eq_true rfl, Nat.le_of_ble_eq_true rfl⟩ (pm_42 (O_S3 G a v) (W_St G (sh a 2) v.1) (W_St G (sh a 22) v.2) (W_St G b u)) (pm_42 (O_S3 G a v) (W_St G (sh a 2) v.1) (W_St G (sh a 22) v.2) (W_St G b q_20)).symm 6 0 rfl rfl rfl rfl rfl (Nat.le_of_ble_eq_true rfl) hl.1 d_Sl_fetch_20 ⟨Nat.zero_le _, Nat.zero_le _⟩ (fun H locs hP hD hS => ?_)
      cases hf
      exact kV hx hb hr hlk hP hD hS d_Sl_fetch_23
    · replace hf := ob_ef e_12_0 hf
      by_cases e_12_1 : l1.toNatClampNeg = 1
      · replace hf := ob_et e_12_1 hf
        refine va_aldq (C := "FloodDiary$State") hx hb hK hP 1 3 rfl rfl g_12 d_Sl_fetch_12 ?_
        refine W.eq (g2 := F0 m 13 ls [.ref (a 22)]) (by first | (rw [e_12_1]; rfl) | rfl) ?_
        refine lv_astore_n (lv' := [(3, .ref (a 22)), (0, .ref (a 0)), (1, .int l1), (2, .ref (b 0))]) hx hb d_Sl_fetch_13 rfl hl (by decide) rfl (fun ls hl => ?_)
        refine lv_aload_n hx hb d_Sl_fetch_14 rfl (lv_at hl 0 rfl) ?_
        refine lv_ifnull hx hb d_Sl_fetch_15 ?_
        refine lv_aload_n hx hb d_Sl_fetch_18 rfl (lv_at hl 3 rfl) ?_
        refine lv_aload_n hx hb d_Sl_fetch_19 rfl (lv_at hl 0 rfl) ?_
        obtain ⟨q_20, hc_20, hf⟩ := oc_e hf
        refine kcVv (cc := c_Sl_fetch) (own := "FloodDiary$Slots") (index := 22) (wc := W_St G b u ++ W_St G (sh a 22) v.2) (wr := O_S3 G a v ++ (W_St G (sh a 2) v.1 ++ (([] : va_W)))) (wc' := W_St G b q_20 ++ W_St G (sh a 22) v.2) (ws' := W_S3 G a v ++ W_St G b q_20) hx hb hml hown hts hK hN hA hP hD hS (t_St_become l G b (sh a 22) u v.2 q_20 hc_20) m_St_become k_734 ⟨Nat.le_of_ble_eq_true rfl, Nat.le_of_ble_eq_true rfl⟩ (pm_43 (O_S3 G a v) (W_St G (sh a 2) v.1) (W_St G (sh a 22) v.2) (W_St G b u)) (pm_43 (O_S3 G a v) (W_St G (sh a 2) v.1) (W_St G (sh a 22) v.2) (W_St G b q_20)).symm 6 0 rfl rfl rfl rfl rfl (Nat.le_of_ble_eq_true rfl) hl.1 d_Sl_fetch_20 ⟨Nat.zero_le _, Nat.zero_le _⟩ (fun H locs hP hD hS => ?_)
        cases hf
        exact kV hx hb hr hlk hP hD hS d_Sl_fetch_23
      · replace hf := ob_ef e_12_1 hf
        cases hf
