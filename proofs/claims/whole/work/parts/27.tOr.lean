set_option maxHeartbeats 4000000 in
set_option maxRecDepth 100000 in
theorem t_Or_isDigit (l : Launch) (G : GG) (l0 : Int32) (q : Int32) (hf : f_Or_isDigit l0 = some q) : MI l G y_Or_isDigit c_Or_isDigit 1 (some .boolean) (rmk 0 0) (([] : va_W)) [.int l0] (([] : va_W)) (q) := by
  refine ofI "FloodDiary$Orders" (by decide +kernel) rfl (Nat.le_of_ble_eq_true rfl) (fun p e s m args below meth c A ls hx hb hr hml hown hts hlk hK hN hA hP hD hS hl => ?_)
  have hl : lv_has ls 1 [(0, .int l0)] := hl
  unfold f_Or_isDigit at hf
  refine lv_iload_n hx hb d_Or_isDigit_0 rfl (lv_at hl 0 rfl) ?_
  refine lv_bipush (v := (48 : Int32)) hx hb d_Or_isDigit_1 (by decide) ?_
  refine lv_icmp_lt (tgt := 16) hx hb d_Or_isDigit_3 (by decide) (fun c_3 => ?_) (fun c_3 => ?_)
  · replace hf := ob_et c_3 hf
    refine lv_iconst (v := (0 : Int32)) hx hb d_Or_isDigit_16 (by decide) ?_
    cases hf
    exact kZ hx hb hr hlk hP hD hS (Or.inl rfl) d_Or_isDigit_17
  · replace hf := ob_ef c_3 hf
    refine lv_iload_n hx hb d_Or_isDigit_6 rfl (lv_at hl 0 rfl) ?_
    refine lv_bipush (v := (57 : Int32)) hx hb d_Or_isDigit_7 (by decide) ?_
    refine lv_icmp_gt (tgt := 16) hx hb d_Or_isDigit_9 (by decide) (fun c_9 => ?_) (fun c_9 => ?_)
    · replace hf := ob_et c_9 hf
      refine lv_iconst (v := (0 : Int32)) hx hb d_Or_isDigit_16 (by decide) ?_
      cases hf
      exact kZ hx hb hr hlk hP hD hS (Or.inl rfl) d_Or_isDigit_17
    · replace hf := ob_ef c_9 hf
      refine lv_iconst (v := (1 : Int32)) hx hb d_Or_isDigit_12 (by decide) ?_
      refine lv_goto (tgt := 17) hx hb d_Or_isDigit_13 (by decide) ?_
      cases hf
      exact kZ hx hb hr hlk hP hD hS (Or.inr rfl) d_Or_isDigit_17
set_option maxHeartbeats 4000000 in
set_option maxRecDepth 100000 in
theorem t_Or_firstFault (l : Launch) (G : GG) (a : Nat → Nat) (v : V_Or) (q : Int32) (hf : f_Or_firstFault v = some q) : MI l G y_Or_firstFault c_Or_firstFault 1 (some .int) (rmk 0 0) (W_Or G a v) [.ref (a 0)] (W_Or G a v) (q) := by
  refine ofI "FloodDiary$Orders" (by decide +kernel) rfl (Nat.le_of_ble_eq_true rfl) (fun p e s m args below meth c A ls hx hb hr hml hown hts hlk hK hN hA hP hD hS hl => ?_)
  have hl : lv_has ls 1 [(0, .ref (a 0))] := hl
  unfold f_Or_firstFault at hf
  refine lv_aload_n hx hb d_Or_firstFault_0 rfl (lv_at hl 0 rfl) ?_
  refine va_get (D := G.1) (ci := 2) (v := .int v.2.2.2.2.2.2) (C := R_Or) (T := T_Or) (N := 7) hx hb hts in_Or hown hK hP 0 rfl rfl 6 (by decide) (hts _ k_202) (fun _ h9 => h9) rfl d_Or_firstFault_1 ?_
  cases hf
  exact kI hx hb hr hlk hP hD hS d_Or_firstFault_4
set_option maxHeartbeats 4000000 in
set_option maxRecDepth 100000 in
theorem t_Or_length (l : Launch) (G : GG) (a : Nat → Nat) (v : V_Or) (q : Int32) (hf : f_Or_length v = some q) : MI l G y_Or_length c_Or_length 1 (some .int) (rmk 0 0) (W_Or G a v) [.ref (a 0)] (W_Or G a v) (q) := by
  refine ofI "FloodDiary$Orders" (by decide +kernel) rfl (Nat.le_of_ble_eq_true rfl) (fun p e s m args below meth c A ls hx hb hr hml hown hts hlk hK hN hA hP hD hS hl => ?_)
  have hl : lv_has ls 1 [(0, .ref (a 0))] := hl
  unfold f_Or_length at hf
  refine lv_aload_n hx hb d_Or_length_0 rfl (lv_at hl 0 rfl) ?_
  refine va_get (D := G.1) (ci := 2) (v := .int v.2.2.2.2.1) (C := R_Or) (T := T_Or) (N := 7) hx hb hts in_Or hown hK hP 0 rfl rfl 4 (by decide) (hts _ k_200) (fun _ h9 => h9) rfl d_Or_length_1 ?_
  cases hf
  exact kI hx hb hr hlk hP hD hS d_Or_length_4
set_option maxHeartbeats 4000000 in
set_option maxRecDepth 100000 in
theorem t_Or_expect (l : Launch) (G : GG) (a : Nat → Nat) (b : Nat → Nat) (l2 : Int32) (v : V_Or) (u : V_Pd) (q : V_Or) (hf : f_Or_expect l2 v u = some q) : MV l G y_Or_expect c_Or_expect 3 (rmk 1 21) (W_Or G a v ++ W_Pd G b u) [.ref (a 0), .ref (b 0), .int l2] (W_Or G a q ++ W_Pd G b u) := by
  refine ofV "FloodDiary$Orders" (by decide +kernel) rfl (Nat.le_of_ble_eq_true rfl) (fun p e s m args below meth c A ls hx hb hr hml hown hts hlk hK hN hA hP hD hS hl => ?_)
  have hl : lv_has ls 3 [(0, .ref (a 0)), (1, .ref (b 0)), (2, .int l2)] := hl
  unfold f_Or_expect at hf
  refine lv_aload_n hx hb d_Or_expect_0 rfl (lv_at hl 0 rfl) ?_
  refine va_get (D := G.1) (ci := 2) (v := .int v.2.2.2.2.2.2) (C := R_Or) (T := T_Or) (N := 7) hx hb hts in_Or hown hK hP 0 rfl rfl 6 (by decide) (hts _ k_202) (fun _ h9 => h9) rfl d_Or_expect_1 ?_
  refine lv_bipush (v := (-6 : Int32)) hx hb d_Or_expect_4 (by decide) ?_
  refine lv_icmp_eq (tgt := 10) hx hb d_Or_expect_6 (by decide) (fun c_6 => ?_) (fun c_6 => ?_)
  · replace hf := ob_et c_6 hf
    refine lv_aload_n hx hb d_Or_expect_10 rfl (lv_at hl 1 rfl) ?_
    refine lv_aload_n hx hb d_Or_expect_11 rfl (lv_at hl 0 rfl) ?_
    refine va_get (D := G.1) (ci := 2) (v := .int v.2.2.2.2.2.1) (C := R_Or) (T := T_Or) (N := 7) hx hb hts in_Or hown hK hP 0 rfl rfl 5 (by decide) (hts _ k_201) (fun _ h9 => h9) rfl d_Or_expect_12 ?_
    obtain ⟨q_15, hc_15, hf⟩ := oc_e hf
    refine kcV (cc := c_Or_expect) (own := "FloodDiary$Orders") (index := 76) (wc := W_Pd G b u) (wr := W_Or G a v ++ (([] : va_W))) (wc' := W_Pd G b u) (ws' := W_Or G a v ++ W_Pd G b u) hx hb hml hown hts hK hN hA hP hD hS (t_Pd_at l G b v.2.2.2.2.2.1 u q_15 hc_15) m_Pd_at k_668 ⟨Nat.le_of_ble_eq_true rfl, Nat.le_of_ble_eq_true rfl⟩ (pm_1 (W_Or G a v) (W_Pd G b u)) (pm_1 (W_Or G a v) (W_Pd G b u)).symm 3 0 rfl rfl rfl rfl rfl (Nat.le_of_ble_eq_true rfl) hl.1 d_Or_expect_15 ⟨Nat.zero_le _, Nat.zero_le _⟩ (fun H locs hP hD hS => ?_)
    refine lv_iload_n hx hb d_Or_expect_18 rfl (lv_at hl 2 rfl) ?_
    refine lv_icmp_ne (tgt := 35) hx hb d_Or_expect_19 (by decide) (fun c_19 => ?_) (fun c_19 => ?_)
    · replace hf := ob_ef c_19 hf
      refine lv_aload_n hx hb d_Or_expect_35 rfl (lv_at hl 0 rfl) ?_
      refine lv_aload_n hx hb d_Or_expect_36 rfl (lv_at hl 0 rfl) ?_
      refine va_get (D := G.1) (ci := 2) (v := .int v.2.2.2.2.2.1) (C := R_Or) (T := T_Or) (N := 7) hx hb hts in_Or hown hK hP 0 rfl rfl 5 (by decide) (hts _ k_201) (fun _ h9 => h9) rfl d_Or_expect_37 ?_
      refine va_put (D := G.1) (ci := 2) (v := .int v.2.2.2.2.2.1) (ty := .int) (C := R_Or) (T := T_Or) (N := 7) hx hb hts in_Or ty_Or ty_Or_ok nm_Or hown hK hP hD hS 0 rfl rfl 6 (by decide) (hts _ k_202) (fun _ h9 => h9) rfl (ty_Or_ok 6 (by decide)) rfl rfl (Nat.le_of_ble_eq_true rfl) d_Or_expect_40 (fun H locs hP hD hS => ?_)
      have hP : va_P G.1 vwCl (W_Or G a (v.1, v.2.1, v.2.2.1, v.2.2.2.1, v.2.2.2.2.1, v.2.2.2.2.2.1, v.2.2.2.2.2.1) ++ W_Pd G b u) H := hP
      have hD : va_D A (W_Or G a (v.1, v.2.1, v.2.2.1, v.2.2.2.1, v.2.2.2.2.1, v.2.2.2.2.2.1, v.2.2.2.2.2.1) ++ W_Pd G b u) := hD
      cases hf
      exact kV hx hb hr hlk hP hD hS d_Or_expect_43
    · replace hf := ob_et c_19 hf
      refine lv_aload_n hx hb d_Or_expect_22 rfl (lv_at hl 0 rfl) ?_
      refine lv_dup hx hb d_Or_expect_23 rfl ?_
      refine va_get (D := G.1) (ci := 2) (v := .int v.2.2.2.2.2.1) (C := R_Or) (T := T_Or) (N := 7) hx hb hts in_Or hown hK hP 0 rfl rfl 5 (by decide) (hts _ k_201) (fun _ h9 => h9) rfl d_Or_expect_24 ?_
      refine lv_iconst (v := (1 : Int32)) hx hb d_Or_expect_27 (by decide) ?_
      refine lv_iadd hx hb d_Or_expect_28 ?_
      refine va_put (D := G.1) (ci := 2) (v := .int (v.2.2.2.2.2.1 + (1 : Int32))) (ty := .int) (C := R_Or) (T := T_Or) (N := 7) hx hb hts in_Or ty_Or ty_Or_ok nm_Or hown hK hP hD hS 0 rfl rfl 5 (by decide) (hts _ k_201) (fun _ h9 => h9) rfl (ty_Or_ok 5 (by decide)) rfl rfl (Nat.le_of_ble_eq_true rfl) d_Or_expect_29 (fun H locs hP hD hS => ?_)
      have hP : va_P G.1 vwCl (W_Or G a (v.1, v.2.1, v.2.2.1, v.2.2.2.1, v.2.2.2.2.1, (v.2.2.2.2.2.1 + (1 : Int32)), v.2.2.2.2.2.2) ++ W_Pd G b u) H := hP
      have hD : va_D A (W_Or G a (v.1, v.2.1, v.2.2.1, v.2.2.2.1, v.2.2.2.2.1, (v.2.2.2.2.2.1 + (1 : Int32)), v.2.2.2.2.2.2) ++ W_Pd G b u) := hD
      refine lv_goto (tgt := 43) hx hb d_Or_expect_32 (by decide) ?_
      cases hf
      exact kV hx hb hr hlk hP hD hS d_Or_expect_43
  · replace hf := ob_ef c_6 hf
    cases hf
    exact kV hx hb hr hlk hP hD hS d_Or_expect_9
set_option maxHeartbeats 4000000 in
set_option maxRecDepth 100000 in
theorem t_Or_readPage (l : Launch) (G : GG) (a : Nat → Nat) (b : Nat → Nat) (v : V_Or) (u : V_Pd) (q : Int32 × V_Or) (hf : f_Or_readPage v u = some q) : MI l G y_Or_readPage c_Or_readPage 3 (some .int) (rmk 1 21) (W_Or G a v ++ W_Pd G b u) [.ref (a 0), .ref (b 0)] (W_Or G a q.2 ++ W_Pd G b u) (q.1) := by
  refine ofI "FloodDiary$Orders" (by decide +kernel) rfl (Nat.le_of_ble_eq_true rfl) (fun p e s m args below meth c A ls hx hb hr hml hown hts hlk hK hN hA hP hD hS hl => ?_)
  have hl : lv_has ls 3 [(0, .ref (a 0)), (1, .ref (b 0))] := hl
  unfold f_Or_readPage at hf
  refine lv_aload_n hx hb d_Or_readPage_0 rfl (lv_at hl 1 rfl) ?_
  refine lv_aload_n hx hb d_Or_readPage_1 rfl (lv_at hl 0 rfl) ?_
  refine va_get (D := G.1) (ci := 2) (v := .int v.2.2.2.2.2.1) (C := R_Or) (T := T_Or) (N := 7) hx hb hts in_Or hown hK hP 0 rfl rfl 5 (by decide) (hts _ k_201) (fun _ h9 => h9) rfl d_Or_readPage_2 ?_
  obtain ⟨q_5, hc_5, hf⟩ := oc_e hf
  refine kcV (cc := c_Or_readPage) (own := "FloodDiary$Orders") (index := 76) (wc := W_Pd G b u) (wr := W_Or G a v ++ (([] : va_W))) (wc' := W_Pd G b u) (ws' := W_Or G a v ++ W_Pd G b u) hx hb hml hown hts hK hN hA hP hD hS (t_Pd_at l G b v.2.2.2.2.2.1 u q_5 hc_5) m_Pd_at k_668 ⟨Nat.le_of_ble_eq_true rfl, Nat.le_of_ble_eq_true rfl⟩ (pm_1 (W_Or G a v) (W_Pd G b u)) (pm_1 (W_Or G a v) (W_Pd G b u)).symm 3 0 rfl rfl rfl rfl rfl (Nat.le_of_ble_eq_true rfl) hl.1 d_Or_readPage_5 ⟨Nat.zero_le _, Nat.zero_le _⟩ (fun H locs hP hD hS => ?_)
  refine lv_bipush (v := (48 : Int32)) hx hb d_Or_readPage_8 (by decide) ?_
  refine lv_isub hx hb d_Or_readPage_10 ?_
  refine lv_istore_n (lv' := [(2, .int (q_5 - (48 : Int32))), (0, .ref (a 0)), (1, .ref (b 0))]) hx hb d_Or_readPage_11 rfl hl (by decide) rfl (fun ls hl => ?_)
  refine lv_aload_n hx hb d_Or_readPage_12 rfl (lv_at hl 1 rfl) ?_
  refine va_get (D := G.1) (ci := 2) (v := .int v.2.2.2.2.2.2) (C := R_Or) (T := T_Or) (N := 7) hx hb hts in_Or hown hK hP 0 rfl rfl 6 (by decide) (hts _ k_202) (fun _ h9 => h9) rfl d_Or_readPage_13 ?_
  refine lv_bipush (v := (-6 : Int32)) hx hb d_Or_readPage_16 (by decide) ?_
  refine lv_icmp_ne (tgt := 36) hx hb d_Or_readPage_18 (by decide) (fun c_18 => ?_) (fun c_18 => ?_)
  · replace hf := ob_ef c_18 hf
    refine lv_aload_n hx hb d_Or_readPage_36 rfl (lv_at hl 1 rfl) ?_
    refine va_get (D := G.1) (ci := 2) (v := .int v.2.2.2.2.2.2) (C := R_Or) (T := T_Or) (N := 7) hx hb hts in_Or hown hK hP 0 rfl rfl 6 (by decide) (hts _ k_202) (fun _ h9 => h9) rfl d_Or_readPage_37 ?_
    refine lv_bipush (v := (-6 : Int32)) hx hb d_Or_readPage_40 (by decide) ?_
    refine lv_icmp_eq (tgt := 47) hx hb d_Or_readPage_42 (by decide) (fun c_42 => ?_) (fun c_42 => ?_)
    · replace hf := ob_et c_42 hf
      refine lv_aload_n hx hb d_Or_readPage_47 rfl (lv_at hl 1 rfl) ?_
      refine lv_dup hx hb d_Or_readPage_48 rfl ?_
      refine va_get (D := G.1) (ci := 2) (v := .int v.2.2.2.2.2.1) (C := R_Or) (T := T_Or) (N := 7) hx hb hts in_Or hown hK hP 0 rfl rfl 5 (by decide) (hts _ k_201) (fun _ h9 => h9) rfl d_Or_readPage_49 ?_
      refine lv_iconst (v := (1 : Int32)) hx hb d_Or_readPage_52 (by decide) ?_
      refine lv_iadd hx hb d_Or_readPage_53 ?_
      refine va_put (D := G.1) (ci := 2) (v := .int (v.2.2.2.2.2.1 + (1 : Int32))) (ty := .int) (C := R_Or) (T := T_Or) (N := 7) hx hb hts in_Or ty_Or ty_Or_ok nm_Or hown hK hP hD hS 0 rfl rfl 5 (by decide) (hts _ k_201) (fun _ h9 => h9) rfl (ty_Or_ok 5 (by decide)) rfl rfl (Nat.le_of_ble_eq_true rfl) d_Or_readPage_54 (fun H locs hP hD hS => ?_)
      have hP : va_P G.1 vwCl (W_Or G a (v.1, v.2.1, v.2.2.1, v.2.2.2.1, v.2.2.2.2.1, (v.2.2.2.2.2.1 + (1 : Int32)), v.2.2.2.2.2.2) ++ W_Pd G b u) H := hP
      have hD : va_D A (W_Or G a (v.1, v.2.1, v.2.2.1, v.2.2.2.1, v.2.2.2.2.1, (v.2.2.2.2.2.1 + (1 : Int32)), v.2.2.2.2.2.2) ++ W_Pd G b u) := hD
      refine lv_iload_n hx hb d_Or_readPage_57 rfl (lv_at hl 0 rfl) ?_
      cases hf
      exact kI hx hb hr hlk hP hD hS d_Or_readPage_58
    · replace hf := ob_ef c_42 hf
      refine lv_iconst (v := (0 : Int32)) hx hb d_Or_readPage_45 (by decide) ?_
      cases hf
      exact kI hx hb hr hlk hP hD hS d_Or_readPage_46
  · replace hf := ob_et c_18 hf
    refine lv_iload_n hx hb d_Or_readPage_21 rfl (lv_at hl 0 rfl) ?_
    obtain ⟨q_22, hc_22, hf⟩ := oc_e hf
    refine kcSN (cc := c_Or_readPage) (own := "FloodDiary$Orders") (index := 86) (wc := ([] : va_W)) (wr := W_Or G a v ++ W_Pd G b u) (wc' := ([] : va_W)) (ws' := W_Or G a v ++ W_Pd G b u) hx hb hml hown hts hK hN hA hP hD hS (t_Fd_isPage l G (q_5 - (48 : Int32)) q_22 hc_22) m_Fd_isPage nsM_14 ⟨Nat.le_of_ble_eq_true rfl, Nat.le_of_ble_eq_true rfl⟩ (List.Perm.refl _) (List.Perm.refl _) rfl rfl (Nat.le_of_ble_eq_true rfl) hl.1 d_Or_readPage_22 ⟨Nat.zero_le _, Nat.zero_le _⟩ (fun H locs hP hD hS => ?_)
    refine lv_if_ne (tgt := 36) hx hb d_Or_readPage_25 (by decide) (fun c_25 => ?_) (fun c_25 => ?_)
    · replace hf := ob_ef c_25 hf
      refine lv_aload_n hx hb d_Or_readPage_36 rfl (lv_at hl 1 rfl) ?_
      refine va_get (D := G.1) (ci := 2) (v := .int v.2.2.2.2.2.2) (C := R_Or) (T := T_Or) (N := 7) hx hb hts in_Or hown hK hP 0 rfl rfl 6 (by decide) (hts _ k_202) (fun _ h9 => h9) rfl d_Or_readPage_37 ?_
      refine lv_bipush (v := (-6 : Int32)) hx hb d_Or_readPage_40 (by decide) ?_
      refine lv_icmp_eq (tgt := 47) hx hb d_Or_readPage_42 (by decide) (fun c_42 => ?_) (fun c_42 => ?_)
      · replace hf := ob_et c_42 hf
        refine lv_aload_n hx hb d_Or_readPage_47 rfl (lv_at hl 1 rfl) ?_
        refine lv_dup hx hb d_Or_readPage_48 rfl ?_
        refine va_get (D := G.1) (ci := 2) (v := .int v.2.2.2.2.2.1) (C := R_Or) (T := T_Or) (N := 7) hx hb hts in_Or hown hK hP 0 rfl rfl 5 (by decide) (hts _ k_201) (fun _ h9 => h9) rfl d_Or_readPage_49 ?_
        refine lv_iconst (v := (1 : Int32)) hx hb d_Or_readPage_52 (by decide) ?_
        refine lv_iadd hx hb d_Or_readPage_53 ?_
        refine va_put (D := G.1) (ci := 2) (v := .int (v.2.2.2.2.2.1 + (1 : Int32))) (ty := .int) (C := R_Or) (T := T_Or) (N := 7) hx hb hts in_Or ty_Or ty_Or_ok nm_Or hown hK hP hD hS 0 rfl rfl 5 (by decide) (hts _ k_201) (fun _ h9 => h9) rfl (ty_Or_ok 5 (by decide)) rfl rfl (Nat.le_of_ble_eq_true rfl) d_Or_readPage_54 (fun H locs hP hD hS => ?_)
        have hP : va_P G.1 vwCl (W_Or G a (v.1, v.2.1, v.2.2.1, v.2.2.2.1, v.2.2.2.2.1, (v.2.2.2.2.2.1 + (1 : Int32)), v.2.2.2.2.2.2) ++ W_Pd G b u) H := hP
        have hD : va_D A (W_Or G a (v.1, v.2.1, v.2.2.1, v.2.2.2.1, v.2.2.2.2.1, (v.2.2.2.2.2.1 + (1 : Int32)), v.2.2.2.2.2.2) ++ W_Pd G b u) := hD
        refine lv_iload_n hx hb d_Or_readPage_57 rfl (lv_at hl 0 rfl) ?_
        cases hf
        exact kI hx hb hr hlk hP hD hS d_Or_readPage_58
      · replace hf := ob_ef c_42 hf
        refine lv_iconst (v := (0 : Int32)) hx hb d_Or_readPage_45 (by decide) ?_
        cases hf
        exact kI hx hb hr hlk hP hD hS d_Or_readPage_46
    · replace hf := ob_et c_25 hf
      refine lv_aload_n hx hb d_Or_readPage_28 rfl (lv_at hl 1 rfl) ?_
      refine lv_aload_n hx hb d_Or_readPage_29 rfl (lv_at hl 1 rfl) ?_
      refine va_get (D := G.1) (ci := 2) (v := .int v.2.2.2.2.2.1) (C := R_Or) (T := T_Or) (N := 7) hx hb hts in_Or hown hK hP 0 rfl rfl 5 (by decide) (hts _ k_201) (fun _ h9 => h9) rfl d_Or_readPage_30 ?_
      refine va_put (D := G.1) (ci := 2) (v := .int v.2.2.2.2.2.1) (ty := .int) (C := R_Or) (T := T_Or) (N := 7) hx hb hts in_Or ty_Or ty_Or_ok nm_Or hown hK hP hD hS 0 rfl rfl 6 (by decide) (hts _ k_202) (fun _ h9 => h9) rfl (ty_Or_ok 6 (by decide)) rfl rfl (Nat.le_of_ble_eq_true rfl) d_Or_readPage_33 (fun H locs hP hD hS => ?_)
      have hP : va_P G.1 vwCl (W_Or G a (v.1, v.2.1, v.2.2.1, v.2.2.2.1, v.2.2.2.2.1, v.2.2.2.2.2.1, v.2.2.2.2.2.1) ++ W_Pd G b u) H := hP
      have hD : va_D A (W_Or G a (v.1, v.2.1, v.2.2.1, v.2.2.2.1, v.2.2.2.2.1, v.2.2.2.2.2.1, v.2.2.2.2.2.1) ++ W_Pd G b u) := hD
      refine lv_aload_n hx hb d_Or_readPage_36 rfl (lv_at hl 1 rfl) ?_
      refine va_get (D := G.1) (ci := 2) (v := .int v.2.2.2.2.2.1) (C := R_Or) (T := T_Or) (N := 7) hx hb hts in_Or hown hK hP 0 rfl rfl 6 (by decide) (hts _ k_202) (fun _ h9 => h9) rfl d_Or_readPage_37 ?_
      refine lv_bipush (v := (-6 : Int32)) hx hb d_Or_readPage_40 (by decide) ?_
      refine lv_icmp_eq (tgt := 47) hx hb d_Or_readPage_42 (by decide) (fun c_42 => ?_) (fun c_42 => ?_)
      · replace hf := ob_et c_42 hf
        refine lv_aload_n hx hb d_Or_readPage_47 rfl (lv_at hl 1 rfl) ?_
        refine lv_dup hx hb d_Or_readPage_48 rfl ?_
        refine va_get (D := G.1) (ci := 2) (v := .int v.2.2.2.2.2.1) (C := R_Or) (T := T_Or) (N := 7) hx hb hts in_Or hown hK hP 0 rfl rfl 5 (by decide) (hts _ k_201) (fun _ h9 => h9) rfl d_Or_readPage_49 ?_
        refine lv_iconst (v := (1 : Int32)) hx hb d_Or_readPage_52 (by decide) ?_
        refine lv_iadd hx hb d_Or_readPage_53 ?_
        refine va_put (D := G.1) (ci := 2) (v := .int (v.2.2.2.2.2.1 + (1 : Int32))) (ty := .int) (C := R_Or) (T := T_Or) (N := 7) hx hb hts in_Or ty_Or ty_Or_ok nm_Or hown hK hP hD hS 0 rfl rfl 5 (by decide) (hts _ k_201) (fun _ h9 => h9) rfl (ty_Or_ok 5 (by decide)) rfl rfl (Nat.le_of_ble_eq_true rfl) d_Or_readPage_54 (fun H locs hP hD hS => ?_)
        have hP : va_P G.1 vwCl (W_Or G a (v.1, v.2.1, v.2.2.1, v.2.2.2.1, v.2.2.2.2.1, (v.2.2.2.2.2.1 + (1 : Int32)), v.2.2.2.2.2.1) ++ W_Pd G b u) H := hP
        have hD : va_D A (W_Or G a (v.1, v.2.1, v.2.2.1, v.2.2.2.1, v.2.2.2.2.1, (v.2.2.2.2.2.1 + (1 : Int32)), v.2.2.2.2.2.1) ++ W_Pd G b u) := hD
        refine lv_iload_n hx hb d_Or_readPage_57 rfl (lv_at hl 0 rfl) ?_
        cases hf
        exact kI hx hb hr hlk hP hD hS d_Or_readPage_58
      · replace hf := ob_ef c_42 hf
        refine lv_iconst (v := (0 : Int32)) hx hb d_Or_readPage_45 (by decide) ?_
        cases hf
        exact kI hx hb hr hlk hP hD hS d_Or_readPage_46
set_option maxHeartbeats 4000000 in
set_option maxRecDepth 100000 in
theorem t_Or_readNumber (l : Launch) (G : GG) (a : Nat → Nat) (b : Nat → Nat) (v : V_Or) (u : V_Pd) (q : Int32 × V_Or) (hf : f_Or_readNumber v u = some q) : MI l G y_Or_readNumber c_Or_readNumber 4 (some .int) (rmk 1 21) (W_Or G a v ++ W_Pd G b u) [.ref (a 0), .ref (b 0)] (W_Or G a q.2 ++ W_Pd G b u) (q.1) := by
  refine ofI "FloodDiary$Orders" (by decide +kernel) rfl (Nat.le_of_ble_eq_true rfl) (fun p e s m args below meth c A ls hx hb hr hml hown hts hlk hK hN hA hP hD hS hl => ?_)
  have hl : lv_has ls 4 [(0, .ref (a 0)), (1, .ref (b 0))] := hl
  have J_66 : ∀ (n_66 : Nat) (l2 : Int32) (l3 : Int32) (v : V_Or) (u : V_Pd) (H : Heap) (locs : List Loc) (ls : Array Slot), va_P G.1 vwCl (W_Or G a v ++ W_Pd G b u) H → va_D A (W_Or G a v ++ W_Pd G b u) → va_S A s.heap H locs → lv_has ls 4 [(0, .ref (a 0)), (1, .ref (b 0)), (2, .int l2), (3, .int l3)] → f_Or_readNumber_66 n_66 l2 l3 v u = some q → W p l e (rmk 1 21) s m args below meth c H locs 0 0 (MQ below (qI G A (W_Or G a q.2 ++ W_Pd G b u) (q.1)) args s 0 0 A) (F0 m 66 ls []) := by
    intro n_66
    induction n_66 with
    | zero => intro l2 l3 v u H locs ls hP hD hS hl hf; exact absurd hf (by unfold f_Or_readNumber_66; exact fun z => by cases z)
    | succ n_66 ih_66 =>
      intro l2 l3 v u H locs ls hP hD hS hl hf
      rw [f_Or_readNumber_66] at hf
      refine lv_iload_n hx hb d_Or_readNumber_66 rfl (lv_at hl 3 rfl) ?_
      refine lv_iconst (v := (3 : Int32)) hx hb d_Or_readNumber_67 (by decide) ?_
      refine lv_icmp_ge (tgt := 122) hx hb d_Or_readNumber_68 (by decide) (fun c_68 => ?_) (fun c_68 => ?_)
      · replace hf := ob_et c_68 hf
        refine lv_iload_n hx hb d_Or_readNumber_122 rfl (lv_at hl 2 rfl) ?_
        cases hf
        exact kI hx hb hr hlk hP hD hS d_Or_readNumber_123
      · replace hf := ob_ef c_68 hf
        refine lv_iload_n hx hb d_Or_readNumber_71 rfl (lv_at hl 2 rfl) ?_
        refine lv_if_le (tgt := 122) hx hb d_Or_readNumber_72 (by decide) (fun c_72 => ?_) (fun c_72 => ?_)
        · replace hf := ob_et c_72 hf
          refine lv_iload_n hx hb d_Or_readNumber_122 rfl (lv_at hl 2 rfl) ?_
          cases hf
          exact kI hx hb hr hlk hP hD hS d_Or_readNumber_123
        · replace hf := ob_ef c_72 hf
          refine lv_aload_n hx hb d_Or_readNumber_75 rfl (lv_at hl 1 rfl) ?_
          refine lv_aload_n hx hb d_Or_readNumber_76 rfl (lv_at hl 0 rfl) ?_
          refine va_get (D := G.1) (ci := 2) (v := .int v.2.2.2.2.2.1) (C := R_Or) (T := T_Or) (N := 7) hx hb hts in_Or hown hK hP 0 rfl rfl 5 (by decide) (hts _ k_201) (fun _ h9 => h9) rfl d_Or_readNumber_77 ?_
          obtain ⟨q_80, hc_80, hf⟩ := oc_e hf
          refine kcV (cc := c_Or_readNumber) (own := "FloodDiary$Orders") (index := 76) (wc := W_Pd G b u) (wr := W_Or G a v ++ (([] : va_W))) (wc' := W_Pd G b u) (ws' := W_Or G a v ++ W_Pd G b u) hx hb hml hown hts hK hN hA hP hD hS (t_Pd_at l G b v.2.2.2.2.2.1 u q_80 hc_80) m_Pd_at k_668 ⟨Nat.le_of_ble_eq_true rfl, Nat.le_of_ble_eq_true rfl⟩ (pm_1 (W_Or G a v) (W_Pd G b u)) (pm_1 (W_Or G a v) (W_Pd G b u)).symm 3 0 rfl rfl rfl rfl rfl (Nat.le_of_ble_eq_true rfl) hl.1 d_Or_readNumber_80 ⟨Nat.zero_le _, Nat.zero_le _⟩ (fun H locs hP hD hS => ?_)
          obtain ⟨q_83, hc_83, hf⟩ := oc_e hf
          refine kcS (cc := c_Or_readNumber) (own := "FloodDiary$Orders") (index := 90) (wc := ([] : va_W)) (wr := W_Or G a v ++ W_Pd G b u) (wc' := ([] : va_W)) (ws' := W_Or G a v ++ W_Pd G b u) hx hb hml hown hts hK hN hA hP hD hS (t_Or_isDigit l G q_80 q_83 hc_83) m_Or_isDigit k_676 ⟨Nat.le_of_ble_eq_true rfl, Nat.le_of_ble_eq_true rfl⟩ (List.Perm.refl _) (List.Perm.refl _) rfl rfl (Nat.le_of_ble_eq_true rfl) hl.1 d_Or_readNumber_83 ⟨Nat.zero_le _, Nat.zero_le _⟩ (fun H locs hP hD hS => ?_)
          refine lv_if_eq (tgt := 122) hx hb d_Or_readNumber_86 (by decide) (fun c_86 => ?_) (fun c_86 => ?_)
          · replace hf := ob_et c_86 hf
            refine lv_iload_n hx hb d_Or_readNumber_122 rfl (lv_at hl 2 rfl) ?_
            cases hf
            exact kI hx hb hr hlk hP hD hS d_Or_readNumber_123
          · replace hf := ob_ef c_86 hf
            refine lv_bipush (v := (10 : Int32)) hx hb d_Or_readNumber_89 (by decide) ?_
            refine lv_iload_n hx hb d_Or_readNumber_91 rfl (lv_at hl 2 rfl) ?_
            refine lv_imul hx hb d_Or_readNumber_92 ?_
            refine lv_aload_n hx hb d_Or_readNumber_93 rfl (lv_at hl 1 rfl) ?_
            refine lv_aload_n hx hb d_Or_readNumber_94 rfl (lv_at hl 0 rfl) ?_
            refine va_get (D := G.1) (ci := 2) (v := .int v.2.2.2.2.2.1) (C := R_Or) (T := T_Or) (N := 7) hx hb hts in_Or hown hK hP 0 rfl rfl 5 (by decide) (hts _ k_201) (fun _ h9 => h9) rfl d_Or_readNumber_95 ?_
            obtain ⟨q_98, hc_98, hf⟩ := oc_e hf
            refine kcV (cc := c_Or_readNumber) (own := "FloodDiary$Orders") (index := 76) (wc := W_Pd G b u) (wr := W_Or G a v ++ (([] : va_W))) (wc' := W_Pd G b u) (ws' := W_Or G a v ++ W_Pd G b u) hx hb hml hown hts hK hN hA hP hD hS (t_Pd_at l G b v.2.2.2.2.2.1 u q_98 hc_98) m_Pd_at k_668 ⟨Nat.le_of_ble_eq_true rfl, Nat.le_of_ble_eq_true rfl⟩ (pm_1 (W_Or G a v) (W_Pd G b u)) (pm_1 (W_Or G a v) (W_Pd G b u)).symm 3 0 rfl rfl rfl rfl rfl (Nat.le_of_ble_eq_true rfl) hl.1 d_Or_readNumber_98 ⟨Nat.zero_le _, Nat.zero_le _⟩ (fun H locs hP hD hS => ?_)
            refine lv_iadd hx hb d_Or_readNumber_101 ?_
            refine lv_bipush (v := (48 : Int32)) hx hb d_Or_readNumber_102 (by decide) ?_
            refine lv_isub hx hb d_Or_readNumber_104 ?_
            refine lv_istore_n (lv' := [(2, .int ((((10 : Int32) * l2) + q_98) - (48 : Int32))), (0, .ref (a 0)), (1, .ref (b 0)), (3, .int l3)]) hx hb d_Or_readNumber_105 rfl hl (by decide) rfl (fun ls hl => ?_)
            refine lv_aload_n hx hb d_Or_readNumber_106 rfl (lv_at hl 1 rfl) ?_
            refine lv_dup hx hb d_Or_readNumber_107 rfl ?_
            refine va_get (D := G.1) (ci := 2) (v := .int v.2.2.2.2.2.1) (C := R_Or) (T := T_Or) (N := 7) hx hb hts in_Or hown hK hP 0 rfl rfl 5 (by decide) (hts _ k_201) (fun _ h9 => h9) rfl d_Or_readNumber_108 ?_
            refine lv_iconst (v := (1 : Int32)) hx hb d_Or_readNumber_111 (by decide) ?_
            refine lv_iadd hx hb d_Or_readNumber_112 ?_
            refine va_put (D := G.1) (ci := 2) (v := .int (v.2.2.2.2.2.1 + (1 : Int32))) (ty := .int) (C := R_Or) (T := T_Or) (N := 7) hx hb hts in_Or ty_Or ty_Or_ok nm_Or hown hK hP hD hS 0 rfl rfl 5 (by decide) (hts _ k_201) (fun _ h9 => h9) rfl (ty_Or_ok 5 (by decide)) rfl rfl (Nat.le_of_ble_eq_true rfl) d_Or_readNumber_113 (fun H locs hP hD hS => ?_)
            have hP : va_P G.1 vwCl (W_Or G a (v.1, v.2.1, v.2.2.1, v.2.2.2.1, v.2.2.2.2.1, (v.2.2.2.2.2.1 + (1 : Int32)), v.2.2.2.2.2.2) ++ W_Pd G b u) H := hP
            have hD : va_D A (W_Or G a (v.1, v.2.1, v.2.2.1, v.2.2.2.1, v.2.2.2.2.1, (v.2.2.2.2.2.1 + (1 : Int32)), v.2.2.2.2.2.2) ++ W_Pd G b u) := hD
            refine lv_iinc (v := (l3 + (1 : Int32))) (lv' := [(3, .int (l3 + (1 : Int32))), (2, .int ((((10 : Int32) * l2) + q_98) - (48 : Int32))), (0, .ref (a 0)), (1, .ref (b 0))]) hx hb d_Or_readNumber_116 hl (k := 3) rfl rfl (by decide) rfl (fun ls hl => ?_)
            refine lv_goto (tgt := 66) hx hb d_Or_readNumber_119 (by decide) ?_
            exact ih_66 ((((10 : Int32) * l2) + q_98) - (48 : Int32)) (l3 + (1 : Int32)) (v.1, v.2.1, v.2.2.1, v.2.2.2.1, v.2.2.2.2.1, (v.2.2.2.2.2.1 + (1 : Int32)), v.2.2.2.2.2.2) u _ _ ls hP hD hS (lv_sub hl [2, 3, 1, 0] rfl) hf
  have J_31 : ∀ (v : V_Or) (u : V_Pd) (H : Heap) (locs : List Loc) (ls : Array Slot), va_P G.1 vwCl (W_Or G a v ++ W_Pd G b u) H → va_D A (W_Or G a v ++ W_Pd G b u) → va_S A s.heap H locs → lv_has ls 4 [(0, .ref (a 0)), (1, .ref (b 0))] → f_Or_readNumber_31 v u = some q → W p l e (rmk 1 21) s m args below meth c H locs 0 0 (MQ below (qI G A (W_Or G a q.2 ++ W_Pd G b u) (q.1)) args s 0 0 A) (F0 m 31 ls []) := by
    intro v u H locs ls hP hD hS hl hf
    unfold f_Or_readNumber_31 at hf
    refine lv_aload_n hx hb d_Or_readNumber_31 rfl (lv_at hl 0 rfl) ?_
    refine va_get (D := G.1) (ci := 2) (v := .int v.2.2.2.2.2.2) (C := R_Or) (T := T_Or) (N := 7) hx hb hts in_Or hown hK hP 0 rfl rfl 6 (by decide) (hts _ k_202) (fun _ h9 => h9) rfl d_Or_readNumber_32 ?_
    refine lv_bipush (v := (-6 : Int32)) hx hb d_Or_readNumber_35 (by decide) ?_
    refine lv_icmp_eq (tgt := 42) hx hb d_Or_readNumber_37 (by decide) (fun c_37 => ?_) (fun c_37 => ?_)
    · replace hf := ob_et c_37 hf
      refine lv_aload_n hx hb d_Or_readNumber_42 rfl (lv_at hl 1 rfl) ?_
      refine lv_aload_n hx hb d_Or_readNumber_43 rfl (lv_at hl 0 rfl) ?_
      refine va_get (D := G.1) (ci := 2) (v := .int v.2.2.2.2.2.1) (C := R_Or) (T := T_Or) (N := 7) hx hb hts in_Or hown hK hP 0 rfl rfl 5 (by decide) (hts _ k_201) (fun _ h9 => h9) rfl d_Or_readNumber_44 ?_
      obtain ⟨q_47, hc_47, hf⟩ := oc_e hf
      refine kcV (cc := c_Or_readNumber) (own := "FloodDiary$Orders") (index := 76) (wc := W_Pd G b u) (wr := W_Or G a v ++ (([] : va_W))) (wc' := W_Pd G b u) (ws' := W_Or G a v ++ W_Pd G b u) hx hb hml hown hts hK hN hA hP hD hS (t_Pd_at l G b v.2.2.2.2.2.1 u q_47 hc_47) m_Pd_at k_668 ⟨Nat.le_of_ble_eq_true rfl, Nat.le_of_ble_eq_true rfl⟩ (pm_1 (W_Or G a v) (W_Pd G b u)) (pm_1 (W_Or G a v) (W_Pd G b u)).symm 3 0 rfl rfl rfl rfl rfl (Nat.le_of_ble_eq_true rfl) hl.1 d_Or_readNumber_47 ⟨Nat.zero_le _, Nat.zero_le _⟩ (fun H locs hP hD hS => ?_)
      refine lv_bipush (v := (48 : Int32)) hx hb d_Or_readNumber_50 (by decide) ?_
      refine lv_isub hx hb d_Or_readNumber_52 ?_
      refine lv_istore_n (lv' := [(2, .int (q_47 - (48 : Int32))), (0, .ref (a 0)), (1, .ref (b 0))]) hx hb d_Or_readNumber_53 rfl hl (by decide) rfl (fun ls hl => ?_)
      refine lv_aload_n hx hb d_Or_readNumber_54 rfl (lv_at hl 1 rfl) ?_
      refine lv_dup hx hb d_Or_readNumber_55 rfl ?_
      refine va_get (D := G.1) (ci := 2) (v := .int v.2.2.2.2.2.1) (C := R_Or) (T := T_Or) (N := 7) hx hb hts in_Or hown hK hP 0 rfl rfl 5 (by decide) (hts _ k_201) (fun _ h9 => h9) rfl d_Or_readNumber_56 ?_
      refine lv_iconst (v := (1 : Int32)) hx hb d_Or_readNumber_59 (by decide) ?_
      refine lv_iadd hx hb d_Or_readNumber_60 ?_
      refine va_put (D := G.1) (ci := 2) (v := .int (v.2.2.2.2.2.1 + (1 : Int32))) (ty := .int) (C := R_Or) (T := T_Or) (N := 7) hx hb hts in_Or ty_Or ty_Or_ok nm_Or hown hK hP hD hS 0 rfl rfl 5 (by decide) (hts _ k_201) (fun _ h9 => h9) rfl (ty_Or_ok 5 (by decide)) rfl rfl (Nat.le_of_ble_eq_true rfl) d_Or_readNumber_61 (fun H locs hP hD hS => ?_)
      have hP : va_P G.1 vwCl (W_Or G a (v.1, v.2.1, v.2.2.1, v.2.2.2.1, v.2.2.2.2.1, (v.2.2.2.2.2.1 + (1 : Int32)), v.2.2.2.2.2.2) ++ W_Pd G b u) H := hP
      have hD : va_D A (W_Or G a (v.1, v.2.1, v.2.2.1, v.2.2.2.1, v.2.2.2.2.1, (v.2.2.2.2.2.1 + (1 : Int32)), v.2.2.2.2.2.2) ++ W_Pd G b u) := hD
      refine lv_iconst (v := (1 : Int32)) hx hb d_Or_readNumber_64 (by decide) ?_
      refine lv_istore_n (lv' := [(3, .int (1 : Int32)), (2, .int (q_47 - (48 : Int32))), (0, .ref (a 0)), (1, .ref (b 0))]) hx hb d_Or_readNumber_65 rfl hl (by decide) rfl (fun ls hl => ?_)
      exact J_66 FU (q_47 - (48 : Int32)) (1 : Int32) (v.1, v.2.1, v.2.2.1, v.2.2.2.1, v.2.2.2.2.1, (v.2.2.2.2.2.1 + (1 : Int32)), v.2.2.2.2.2.2) u _ _ ls hP hD hS (lv_sub hl [2, 3, 1, 0] rfl) hf
    · replace hf := ob_ef c_37 hf
      refine lv_iconst (v := (0 : Int32)) hx hb d_Or_readNumber_40 (by decide) ?_
      cases hf
      exact kI hx hb hr hlk hP hD hS d_Or_readNumber_41
  unfold f_Or_readNumber at hf
  refine lv_aload_n hx hb d_Or_readNumber_0 rfl (lv_at hl 0 rfl) ?_
  refine va_get (D := G.1) (ci := 2) (v := .int v.2.2.2.2.2.2) (C := R_Or) (T := T_Or) (N := 7) hx hb hts in_Or hown hK hP 0 rfl rfl 6 (by decide) (hts _ k_202) (fun _ h9 => h9) rfl d_Or_readNumber_1 ?_
  refine lv_bipush (v := (-6 : Int32)) hx hb d_Or_readNumber_4 (by decide) ?_
  refine lv_icmp_ne (tgt := 31) hx hb d_Or_readNumber_6 (by decide) (fun c_6 => ?_) (fun c_6 => ?_)
  · replace hf := ob_ef c_6 hf
    exact J_31 v u _ _ ls hP hD hS (lv_sub hl [0, 1] rfl) hf
  · replace hf := ob_et c_6 hf
    refine lv_aload_n hx hb d_Or_readNumber_9 rfl (lv_at hl 1 rfl) ?_
    refine lv_aload_n hx hb d_Or_readNumber_10 rfl (lv_at hl 0 rfl) ?_
    refine va_get (D := G.1) (ci := 2) (v := .int v.2.2.2.2.2.1) (C := R_Or) (T := T_Or) (N := 7) hx hb hts in_Or hown hK hP 0 rfl rfl 5 (by decide) (hts _ k_201) (fun _ h9 => h9) rfl d_Or_readNumber_11 ?_
    obtain ⟨q_14, hc_14, hf⟩ := oc_e hf
    refine kcV (cc := c_Or_readNumber) (own := "FloodDiary$Orders") (index := 76) (wc := W_Pd G b u) (wr := W_Or G a v ++ (([] : va_W))) (wc' := W_Pd G b u) (ws' := W_Or G a v ++ W_Pd G b u) hx hb hml hown hts hK hN hA hP hD hS (t_Pd_at l G b v.2.2.2.2.2.1 u q_14 hc_14) m_Pd_at k_668 ⟨Nat.le_of_ble_eq_true rfl, Nat.le_of_ble_eq_true rfl⟩ (pm_1 (W_Or G a v) (W_Pd G b u)) (pm_1 (W_Or G a v) (W_Pd G b u)).symm 3 0 rfl rfl rfl rfl rfl (Nat.le_of_ble_eq_true rfl) hl.1 d_Or_readNumber_14 ⟨Nat.zero_le _, Nat.zero_le _⟩ (fun H locs hP hD hS => ?_)
    obtain ⟨q_17, hc_17, hf⟩ := oc_e hf
    refine kcS (cc := c_Or_readNumber) (own := "FloodDiary$Orders") (index := 90) (wc := ([] : va_W)) (wr := W_Or G a v ++ W_Pd G b u) (wc' := ([] : va_W)) (ws' := W_Or G a v ++ W_Pd G b u) hx hb hml hown hts hK hN hA hP hD hS (t_Or_isDigit l G q_14 q_17 hc_17) m_Or_isDigit k_676 ⟨Nat.le_of_ble_eq_true rfl, Nat.le_of_ble_eq_true rfl⟩ (List.Perm.refl _) (List.Perm.refl _) rfl rfl (Nat.le_of_ble_eq_true rfl) hl.1 d_Or_readNumber_17 ⟨Nat.zero_le _, Nat.zero_le _⟩ (fun H locs hP hD hS => ?_)
    refine lv_if_ne (tgt := 31) hx hb d_Or_readNumber_20 (by decide) (fun c_20 => ?_) (fun c_20 => ?_)
    · replace hf := ob_ef c_20 hf
      exact J_31 v u _ _ ls hP hD hS (lv_sub hl [0, 1] rfl) hf
    · replace hf := ob_et c_20 hf
      refine lv_aload_n hx hb d_Or_readNumber_23 rfl (lv_at hl 0 rfl) ?_
      refine lv_aload_n hx hb d_Or_readNumber_24 rfl (lv_at hl 0 rfl) ?_
      refine va_get (D := G.1) (ci := 2) (v := .int v.2.2.2.2.2.1) (C := R_Or) (T := T_Or) (N := 7) hx hb hts in_Or hown hK hP 0 rfl rfl 5 (by decide) (hts _ k_201) (fun _ h9 => h9) rfl d_Or_readNumber_25 ?_
      refine va_put (D := G.1) (ci := 2) (v := .int v.2.2.2.2.2.1) (ty := .int) (C := R_Or) (T := T_Or) (N := 7) hx hb hts in_Or ty_Or ty_Or_ok nm_Or hown hK hP hD hS 0 rfl rfl 6 (by decide) (hts _ k_202) (fun _ h9 => h9) rfl (ty_Or_ok 6 (by decide)) rfl rfl (Nat.le_of_ble_eq_true rfl) d_Or_readNumber_28 (fun H locs hP hD hS => ?_)
      have hP : va_P G.1 vwCl (W_Or G a (v.1, v.2.1, v.2.2.1, v.2.2.2.1, v.2.2.2.2.1, v.2.2.2.2.2.1, v.2.2.2.2.2.1) ++ W_Pd G b u) H := hP
      have hD : va_D A (W_Or G a (v.1, v.2.1, v.2.2.1, v.2.2.2.1, v.2.2.2.2.1, v.2.2.2.2.2.1, v.2.2.2.2.2.1) ++ W_Pd G b u) := hD
      exact J_31 (v.1, v.2.1, v.2.2.1, v.2.2.2.1, v.2.2.2.2.1, v.2.2.2.2.2.1, v.2.2.2.2.2.1) u _ _ ls hP hD hS (lv_sub hl [0, 1] rfl) hf
theorem pm_10 (x0 x1 : va_W) : List.Perm ((x0) ++ (x1)) ((x0 ++ x1) ++ (([] : va_W))) := prm (fun d z => by first | (simp only [List.count_append, List.count_nil]; omega) | simp only [List.count_append, List.count_nil])
set_option maxHeartbeats 4000000 in
set_option maxRecDepth 100000 in
theorem t_Or_readOrder (l : Launch) (G : GG) (a : Nat → Nat) (b : Nat → Nat) (v : V_Or) (u : V_Pd) (q : V_Or) (hf : f_Or_readOrder v u = some q) : MV l G y_Or_readOrder c_Or_readOrder 3 (rmk 2 44) (W_Or G a v ++ W_Pd G b u) [.ref (a 0), .ref (b 0)] (W_Or G a q ++ W_Pd G b u) := by
  refine ofV "FloodDiary$Orders" (by decide +kernel) rfl (Nat.le_of_ble_eq_true rfl) (fun p e s m args below meth c A ls hx hb hr hml hown hts hlk hK hN hA hP hD hS hl => ?_)
  have hl : lv_has ls 3 [(0, .ref (a 0)), (1, .ref (b 0))] := hl
  have J_235 : ∀ (v : V_Or) (u : V_Pd) (H : Heap) (locs : List Loc) (ls : Array Slot), va_P G.1 vwCl (W_Or G a v ++ W_Pd G b u) H → va_D A (W_Or G a v ++ W_Pd G b u) → va_S A s.heap H locs → lv_has ls 3 [(0, .ref (a 0)), (1, .ref (b 0))] → f_Or_readOrder_235 v u = some q → W p l e (rmk 2 44) s m args below meth c H locs 0 0 (MQ below (qV G A (W_Or G a q ++ W_Pd G b u)) args s 0 0 A) (F0 m 235 ls []) := by
    intro v u H locs ls hP hD hS hl hf
    unfold f_Or_readOrder_235 at hf
    refine lv_aload_n hx hb d_Or_readOrder_235 rfl (lv_at hl 0 rfl) ?_
    refine va_get (D := G.1) (ci := 2) (v := .ref (a 2)) (C := R_Or) (T := T_Or) (N := 7) hx hb hts in_Or hown hK hP 0 rfl rfl 1 (by decide) (hts _ k_197) (fun _ h9 => h9) rfl d_Or_readOrder_236 ?_
    refine lv_aload_n hx hb d_Or_readOrder_239 rfl (lv_at hl 0 rfl) ?_
    refine va_get (D := G.1) (ci := 2) (v := .int v.2.2.2.2.1) (C := R_Or) (T := T_Or) (N := 7) hx hb hts in_Or hown hK hP 0 rfl rfl 4 (by decide) (hts _ k_200) (fun _ h9 => h9) rfl d_Or_readOrder_240 ?_
    refine lv_aload_n hx hb d_Or_readOrder_243 rfl (lv_at hl 0 rfl) ?_
    refine lv_aload_n hx hb d_Or_readOrder_244 rfl (lv_at hl 1 rfl) ?_
    obtain ⟨q_245, hc_245, hf⟩ := oc_e hf
    refine kcV (cc := c_Or_readOrder) (own := "FloodDiary$Orders") (index := 79) (wc := W_Or G a v ++ W_Pd G b u) (wr := ([] : va_W)) (wc' := W_Or G a q_245.2 ++ W_Pd G b u) (ws' := W_Or G a q_245.2 ++ W_Pd G b u) hx hb hml hown hts hK hN hA hP hD hS (t_Or_readNumber l G a b v u q_245 hc_245) m_Or_readNumber k_672 ⟨Nat.le_of_ble_eq_true rfl, Nat.le_of_ble_eq_true rfl⟩ (pm_10 (W_Or G a v) (W_Pd G b u)) (pm_10 (W_Or G a q_245.2) (W_Pd G b u)).symm 2 0 rfl rfl rfl rfl rfl (Nat.le_of_ble_eq_true rfl) hl.1 d_Or_readOrder_245 ⟨Nat.zero_le _, Nat.zero_le _⟩ (fun H locs hP hD hS => ?_)
    obtain ⟨g_248, hf⟩ := og_e hf
    obtain ⟨r_248, er_248, hf⟩ := nx_e hf
    refine va_iast hx hb hK hP hD hS 2 0 rfl rfl g_248 d_Or_readOrder_248 (fun H locs hP hD hS => ?_)
    rw [← er_248] at hP hD
    have hP : va_P G.1 vwCl (W_Or G a (q_245.2.1, r_248, q_245.2.2.2.1, q_245.2.2.2.2.1, q_245.2.2.2.2.2.1, q_245.2.2.2.2.2.2.1, q_245.2.2.2.2.2.2.2) ++ W_Pd G b u) H := hP
    have hD : va_D A (W_Or G a (q_245.2.1, r_248, q_245.2.2.2.1, q_245.2.2.2.2.1, q_245.2.2.2.2.2.1, q_245.2.2.2.2.2.2.1, q_245.2.2.2.2.2.2.2) ++ W_Pd G b u) := hD
    refine lv_goto (tgt := 263) hx hb d_Or_readOrder_249 (by decide) ?_
    refine lv_aload_n hx hb d_Or_readOrder_263 rfl (lv_at hl 0 rfl) ?_
    refine lv_dup hx hb d_Or_readOrder_264 rfl ?_
    refine va_get (D := G.1) (ci := 2) (v := .int q_245.2.2.2.2.2.1) (C := R_Or) (T := T_Or) (N := 7) hx hb hts in_Or hown hK hP 0 rfl rfl 4 (by decide) (hts _ k_200) (fun _ h9 => h9) rfl d_Or_readOrder_265 ?_
    refine lv_iconst (v := (1 : Int32)) hx hb d_Or_readOrder_268 (by decide) ?_
    refine lv_iadd hx hb d_Or_readOrder_269 ?_
    refine va_put (D := G.1) (ci := 2) (v := .int (q_245.2.2.2.2.2.1 + (1 : Int32))) (ty := .int) (C := R_Or) (T := T_Or) (N := 7) hx hb hts in_Or ty_Or ty_Or_ok nm_Or hown hK hP hD hS 0 rfl rfl 4 (by decide) (hts _ k_200) (fun _ h9 => h9) rfl (ty_Or_ok 4 (by decide)) rfl rfl (Nat.le_of_ble_eq_true rfl) d_Or_readOrder_270 (fun H locs hP hD hS => ?_)
    have hP : va_P G.1 vwCl (W_Or G a (q_245.2.1, r_248, q_245.2.2.2.1, q_245.2.2.2.2.1, (q_245.2.2.2.2.2.1 + (1 : Int32)), q_245.2.2.2.2.2.2.1, q_245.2.2.2.2.2.2.2) ++ W_Pd G b u) H := hP
    have hD : va_D A (W_Or G a (q_245.2.1, r_248, q_245.2.2.2.1, q_245.2.2.2.2.1, (q_245.2.2.2.2.2.1 + (1 : Int32)), q_245.2.2.2.2.2.2.1, q_245.2.2.2.2.2.2.2) ++ W_Pd G b u) := hD
    cases hf
    exact kV hx hb hr hlk hP hD hS d_Or_readOrder_273
  unfold f_Or_readOrder at hf
  refine lv_aload_n hx hb d_Or_readOrder_0 rfl (lv_at hl 1 rfl) ?_
  refine lv_aload_n hx hb d_Or_readOrder_1 rfl (lv_at hl 0 rfl) ?_
  refine va_get (D := G.1) (ci := 2) (v := .int v.2.2.2.2.2.1) (C := R_Or) (T := T_Or) (N := 7) hx hb hts in_Or hown hK hP 0 rfl rfl 5 (by decide) (hts _ k_201) (fun _ h9 => h9) rfl d_Or_readOrder_2 ?_
  obtain ⟨q_5, hc_5, hf⟩ := oc_e hf
  refine kcV (cc := c_Or_readOrder) (own := "FloodDiary$Orders") (index := 76) (wc := W_Pd G b u) (wr := W_Or G a v ++ (([] : va_W))) (wc' := W_Pd G b u) (ws' := W_Or G a v ++ W_Pd G b u) hx hb hml hown hts hK hN hA hP hD hS (t_Pd_at l G b v.2.2.2.2.2.1 u q_5 hc_5) m_Pd_at k_668 ⟨Nat.le_of_ble_eq_true rfl, Nat.le_of_ble_eq_true rfl⟩ (pm_1 (W_Or G a v) (W_Pd G b u)) (pm_1 (W_Or G a v) (W_Pd G b u)).symm 3 0 rfl rfl rfl rfl rfl (Nat.le_of_ble_eq_true rfl) hl.1 d_Or_readOrder_5 ⟨Nat.zero_le _, Nat.zero_le _⟩ (fun H locs hP hD hS => ?_)
  refine lv_istore_n (lv' := [(2, .int q_5), (0, .ref (a 0)), (1, .ref (b 0))]) hx hb d_Or_readOrder_8 rfl hl (by decide) rfl (fun ls hl => ?_)
  refine lv_aload_n hx hb d_Or_readOrder_9 rfl (lv_at hl 1 rfl) ?_
  refine va_get (D := G.1) (ci := 2) (v := .int v.2.2.2.2.2.2) (C := R_Or) (T := T_Or) (N := 7) hx hb hts in_Or hown hK hP 0 rfl rfl 6 (by decide) (hts _ k_202) (fun _ h9 => h9) rfl d_Or_readOrder_10 ?_
  refine lv_bipush (v := (-6 : Int32)) hx hb d_Or_readOrder_13 (by decide) ?_
  refine lv_icmp_ne (tgt := 27) hx hb d_Or_readOrder_15 (by decide) (fun c_15 => ?_) (fun c_15 => ?_)
  · replace hf := ob_ef c_15 hf
    cases hf
    exact kV hx hb hr hlk hP hD hS d_Or_readOrder_27
  · replace hf := ob_et c_15 hf
    refine lv_aload_n hx hb d_Or_readOrder_18 rfl (lv_at hl 1 rfl) ?_
    refine va_get (D := G.1) (ci := 2) (v := .int v.2.2.2.2.1) (C := R_Or) (T := T_Or) (N := 7) hx hb hts in_Or hown hK hP 0 rfl rfl 4 (by decide) (hts _ k_200) (fun _ h9 => h9) rfl d_Or_readOrder_19 ?_
    refine lv_bipush (v := (80 : Int32)) hx hb d_Or_readOrder_22 (by decide) ?_
    refine lv_icmp_lt (tgt := 28) hx hb d_Or_readOrder_24 (by decide) (fun c_24 => ?_) (fun c_24 => ?_)
    · replace hf := ob_et c_24 hf
      refine lv_aload_n hx hb d_Or_readOrder_28 rfl (lv_at hl 1 rfl) ?_
      refine va_get (D := G.1) (ci := 2) (v := .ref (a 1)) (C := R_Or) (T := T_Or) (N := 7) hx hb hts in_Or hown hK hP 0 rfl rfl 0 (by decide) (hts _ k_196) (fun _ h9 => h9) rfl d_Or_readOrder_29 ?_
      refine lv_aload_n hx hb d_Or_readOrder_32 rfl (lv_at hl 1 rfl) ?_
      refine va_get (D := G.1) (ci := 2) (v := .int v.2.2.2.2.1) (C := R_Or) (T := T_Or) (N := 7) hx hb hts in_Or hown hK hP 0 rfl rfl 4 (by decide) (hts _ k_200) (fun _ h9 => h9) rfl d_Or_readOrder_33 ?_
      refine lv_iload_n hx hb d_Or_readOrder_36 rfl (lv_at hl 0 rfl) ?_
      obtain ⟨g_37, hf⟩ := og_e hf
      obtain ⟨r_37, er_37, hf⟩ := nx_e hf
      refine va_iast hx hb hK hP hD hS 1 0 rfl rfl g_37 d_Or_readOrder_37 (fun H locs hP hD hS => ?_)
      rw [← er_37] at hP hD
      have hP : va_P G.1 vwCl (W_Or G a (r_37, v.2.1, v.2.2.1, v.2.2.2.1, v.2.2.2.2.1, v.2.2.2.2.2.1, v.2.2.2.2.2.2) ++ W_Pd G b u) H := hP
      have hD : va_D A (W_Or G a (r_37, v.2.1, v.2.2.1, v.2.2.2.1, v.2.2.2.2.1, v.2.2.2.2.2.1, v.2.2.2.2.2.2) ++ W_Pd G b u) := hD
      refine lv_aload_n hx hb d_Or_readOrder_38 rfl (lv_at hl 1 rfl) ?_
      refine lv_dup hx hb d_Or_readOrder_39 rfl ?_
      refine va_get (D := G.1) (ci := 2) (v := .int v.2.2.2.2.2.1) (C := R_Or) (T := T_Or) (N := 7) hx hb hts in_Or hown hK hP 0 rfl rfl 5 (by decide) (hts _ k_201) (fun _ h9 => h9) rfl d_Or_readOrder_40 ?_
      refine lv_iconst (v := (1 : Int32)) hx hb d_Or_readOrder_43 (by decide) ?_
      refine lv_iadd hx hb d_Or_readOrder_44 ?_
      refine va_put (D := G.1) (ci := 2) (v := .int (v.2.2.2.2.2.1 + (1 : Int32))) (ty := .int) (C := R_Or) (T := T_Or) (N := 7) hx hb hts in_Or ty_Or ty_Or_ok nm_Or hown hK hP hD hS 0 rfl rfl 5 (by decide) (hts _ k_201) (fun _ h9 => h9) rfl (ty_Or_ok 5 (by decide)) rfl rfl (Nat.le_of_ble_eq_true rfl) d_Or_readOrder_45 (fun H locs hP hD hS => ?_)
      have hP : va_P G.1 vwCl (W_Or G a (r_37, v.2.1, v.2.2.1, v.2.2.2.1, v.2.2.2.2.1, (v.2.2.2.2.2.1 + (1 : Int32)), v.2.2.2.2.2.2) ++ W_Pd G b u) H := hP
      have hD : va_D A (W_Or G a (r_37, v.2.1, v.2.2.1, v.2.2.2.1, v.2.2.2.2.1, (v.2.2.2.2.2.1 + (1 : Int32)), v.2.2.2.2.2.2) ++ W_Pd G b u) := hD
      refine lv_iload_n hx hb d_Or_readOrder_48 rfl (lv_at hl 0 rfl) ?_
      by_cases e_49_98 : q_5 = (98 : Int32)
      · replace hf := ob_et e_49_98 hf
        refine lv_tableIn (off := 107) (tgt := 156) hx hb d_Or_readOrder_49 (by rw [e_49_98]; decide) (by rw [e_49_98]; decide) (by rw [e_49_98]; decide) (by decide) ?_
        refine lv_goto (tgt := 263) hx hb d_Or_readOrder_156 (by decide) ?_
        refine lv_aload_n hx hb d_Or_readOrder_263 rfl (lv_at hl 1 rfl) ?_
        refine lv_dup hx hb d_Or_readOrder_264 rfl ?_
        refine va_get (D := G.1) (ci := 2) (v := .int v.2.2.2.2.1) (C := R_Or) (T := T_Or) (N := 7) hx hb hts in_Or hown hK hP 0 rfl rfl 4 (by decide) (hts _ k_200) (fun _ h9 => h9) rfl d_Or_readOrder_265 ?_
        refine lv_iconst (v := (1 : Int32)) hx hb d_Or_readOrder_268 (by decide) ?_
        refine lv_iadd hx hb d_Or_readOrder_269 ?_
        refine va_put (D := G.1) (ci := 2) (v := .int (v.2.2.2.2.1 + (1 : Int32))) (ty := .int) (C := R_Or) (T := T_Or) (N := 7) hx hb hts in_Or ty_Or ty_Or_ok nm_Or hown hK hP hD hS 0 rfl rfl 4 (by decide) (hts _ k_200) (fun _ h9 => h9) rfl (ty_Or_ok 4 (by decide)) rfl rfl (Nat.le_of_ble_eq_true rfl) d_Or_readOrder_270 (fun H locs hP hD hS => ?_)
        have hP : va_P G.1 vwCl (W_Or G a (r_37, v.2.1, v.2.2.1, v.2.2.2.1, (v.2.2.2.2.1 + (1 : Int32)), (v.2.2.2.2.2.1 + (1 : Int32)), v.2.2.2.2.2.2) ++ W_Pd G b u) H := hP
        have hD : va_D A (W_Or G a (r_37, v.2.1, v.2.2.1, v.2.2.2.1, (v.2.2.2.2.1 + (1 : Int32)), (v.2.2.2.2.2.1 + (1 : Int32)), v.2.2.2.2.2.2) ++ W_Pd G b u) := hD
        cases hf
        exact kV hx hb hr hlk hP hD hS d_Or_readOrder_273
      · replace hf := ob_ef e_49_98 hf
        by_cases e_49_99 : q_5 = (99 : Int32)
        · replace hf := ob_et e_49_99 hf
          refine lv_tableIn (off := 203) (tgt := 252) hx hb d_Or_readOrder_49 (by rw [e_49_99]; decide) (by rw [e_49_99]; decide) (by rw [e_49_99]; decide) (by decide) ?_
          refine lv_aload_n hx hb d_Or_readOrder_252 rfl (lv_at hl 1 rfl) ?_
          refine lv_aload_n hx hb d_Or_readOrder_253 rfl (lv_at hl 1 rfl) ?_
          refine va_get (D := G.1) (ci := 2) (v := .int (v.2.2.2.2.2.1 + (1 : Int32))) (C := R_Or) (T := T_Or) (N := 7) hx hb hts in_Or hown hK hP 0 rfl rfl 5 (by decide) (hts _ k_201) (fun _ h9 => h9) rfl d_Or_readOrder_254 ?_
          refine lv_iconst (v := (1 : Int32)) hx hb d_Or_readOrder_257 (by decide) ?_
          refine lv_isub hx hb d_Or_readOrder_258 ?_
          refine va_put (D := G.1) (ci := 2) (v := .int ((v.2.2.2.2.2.1 + (1 : Int32)) - (1 : Int32))) (ty := .int) (C := R_Or) (T := T_Or) (N := 7) hx hb hts in_Or ty_Or ty_Or_ok nm_Or hown hK hP hD hS 0 rfl rfl 6 (by decide) (hts _ k_202) (fun _ h9 => h9) rfl (ty_Or_ok 6 (by decide)) rfl rfl (Nat.le_of_ble_eq_true rfl) d_Or_readOrder_259 (fun H locs hP hD hS => ?_)
          have hP : va_P G.1 vwCl (W_Or G a (r_37, v.2.1, v.2.2.1, v.2.2.2.1, v.2.2.2.2.1, (v.2.2.2.2.2.1 + (1 : Int32)), ((v.2.2.2.2.2.1 + (1 : Int32)) - (1 : Int32))) ++ W_Pd G b u) H := hP
          have hD : va_D A (W_Or G a (r_37, v.2.1, v.2.2.1, v.2.2.2.1, v.2.2.2.2.1, (v.2.2.2.2.2.1 + (1 : Int32)), ((v.2.2.2.2.2.1 + (1 : Int32)) - (1 : Int32))) ++ W_Pd G b u) := hD
          cases hf
          exact kV hx hb hr hlk hP hD hS d_Or_readOrder_262
        · replace hf := ob_ef e_49_99 hf
          by_cases e_49_100 : q_5 = (100 : Int32)
          · replace hf := ob_et e_49_100 hf
            refine lv_tableIn (off := 203) (tgt := 252) hx hb d_Or_readOrder_49 (by rw [e_49_100]; decide) (by rw [e_49_100]; decide) (by rw [e_49_100]; decide) (by decide) ?_
            refine lv_aload_n hx hb d_Or_readOrder_252 rfl (lv_at hl 1 rfl) ?_
            refine lv_aload_n hx hb d_Or_readOrder_253 rfl (lv_at hl 1 rfl) ?_
            refine va_get (D := G.1) (ci := 2) (v := .int (v.2.2.2.2.2.1 + (1 : Int32))) (C := R_Or) (T := T_Or) (N := 7) hx hb hts in_Or hown hK hP 0 rfl rfl 5 (by decide) (hts _ k_201) (fun _ h9 => h9) rfl d_Or_readOrder_254 ?_
            refine lv_iconst (v := (1 : Int32)) hx hb d_Or_readOrder_257 (by decide) ?_
            refine lv_isub hx hb d_Or_readOrder_258 ?_
            refine va_put (D := G.1) (ci := 2) (v := .int ((v.2.2.2.2.2.1 + (1 : Int32)) - (1 : Int32))) (ty := .int) (C := R_Or) (T := T_Or) (N := 7) hx hb hts in_Or ty_Or ty_Or_ok nm_Or hown hK hP hD hS 0 rfl rfl 6 (by decide) (hts _ k_202) (fun _ h9 => h9) rfl (ty_Or_ok 6 (by decide)) rfl rfl (Nat.le_of_ble_eq_true rfl) d_Or_readOrder_259 (fun H locs hP hD hS => ?_)
            have hP : va_P G.1 vwCl (W_Or G a (r_37, v.2.1, v.2.2.1, v.2.2.2.1, v.2.2.2.2.1, (v.2.2.2.2.2.1 + (1 : Int32)), ((v.2.2.2.2.2.1 + (1 : Int32)) - (1 : Int32))) ++ W_Pd G b u) H := hP
            have hD : va_D A (W_Or G a (r_37, v.2.1, v.2.2.1, v.2.2.2.1, v.2.2.2.2.1, (v.2.2.2.2.2.1 + (1 : Int32)), ((v.2.2.2.2.2.1 + (1 : Int32)) - (1 : Int32))) ++ W_Pd G b u) := hD
            cases hf
            exact kV hx hb hr hlk hP hD hS d_Or_readOrder_262
          · replace hf := ob_ef e_49_100 hf
            by_cases e_49_101 : q_5 = (101 : Int32)
            · replace hf := ob_et e_49_101 hf
              refine lv_tableIn (off := 203) (tgt := 252) hx hb d_Or_readOrder_49 (by rw [e_49_101]; decide) (by rw [e_49_101]; decide) (by rw [e_49_101]; decide) (by decide) ?_
              refine lv_aload_n hx hb d_Or_readOrder_252 rfl (lv_at hl 1 rfl) ?_
              refine lv_aload_n hx hb d_Or_readOrder_253 rfl (lv_at hl 1 rfl) ?_
              refine va_get (D := G.1) (ci := 2) (v := .int (v.2.2.2.2.2.1 + (1 : Int32))) (C := R_Or) (T := T_Or) (N := 7) hx hb hts in_Or hown hK hP 0 rfl rfl 5 (by decide) (hts _ k_201) (fun _ h9 => h9) rfl d_Or_readOrder_254 ?_
              refine lv_iconst (v := (1 : Int32)) hx hb d_Or_readOrder_257 (by decide) ?_
              refine lv_isub hx hb d_Or_readOrder_258 ?_
              refine va_put (D := G.1) (ci := 2) (v := .int ((v.2.2.2.2.2.1 + (1 : Int32)) - (1 : Int32))) (ty := .int) (C := R_Or) (T := T_Or) (N := 7) hx hb hts in_Or ty_Or ty_Or_ok nm_Or hown hK hP hD hS 0 rfl rfl 6 (by decide) (hts _ k_202) (fun _ h9 => h9) rfl (ty_Or_ok 6 (by decide)) rfl rfl (Nat.le_of_ble_eq_true rfl) d_Or_readOrder_259 (fun H locs hP hD hS => ?_)
              have hP : va_P G.1 vwCl (W_Or G a (r_37, v.2.1, v.2.2.1, v.2.2.2.1, v.2.2.2.2.1, (v.2.2.2.2.2.1 + (1 : Int32)), ((v.2.2.2.2.2.1 + (1 : Int32)) - (1 : Int32))) ++ W_Pd G b u) H := hP
              have hD : va_D A (W_Or G a (r_37, v.2.1, v.2.2.1, v.2.2.2.1, v.2.2.2.2.1, (v.2.2.2.2.2.1 + (1 : Int32)), ((v.2.2.2.2.2.1 + (1 : Int32)) - (1 : Int32))) ++ W_Pd G b u) := hD
              cases hf
              exact kV hx hb hr hlk hP hD hS d_Or_readOrder_262
            · replace hf := ob_ef e_49_101 hf
              by_cases e_49_102 : q_5 = (102 : Int32)
              · replace hf := ob_et e_49_102 hf
                refine lv_tableIn (off := 186) (tgt := 235) hx hb d_Or_readOrder_49 (by rw [e_49_102]; decide) (by rw [e_49_102]; decide) (by rw [e_49_102]; decide) (by decide) ?_
                exact J_235 (r_37, v.2.1, v.2.2.1, v.2.2.2.1, v.2.2.2.2.1, (v.2.2.2.2.2.1 + (1 : Int32)), v.2.2.2.2.2.2) u _ _ ls hP hD hS (lv_sub hl [1, 2] rfl) hf
              · replace hf := ob_ef e_49_102 hf
                by_cases e_49_103 : q_5 = (103 : Int32)
                · replace hf := ob_et e_49_103 hf
                  refine lv_tableIn (off := 203) (tgt := 252) hx hb d_Or_readOrder_49 (by rw [e_49_103]; decide) (by rw [e_49_103]; decide) (by rw [e_49_103]; decide) (by decide) ?_
                  refine lv_aload_n hx hb d_Or_readOrder_252 rfl (lv_at hl 1 rfl) ?_
                  refine lv_aload_n hx hb d_Or_readOrder_253 rfl (lv_at hl 1 rfl) ?_
                  refine va_get (D := G.1) (ci := 2) (v := .int (v.2.2.2.2.2.1 + (1 : Int32))) (C := R_Or) (T := T_Or) (N := 7) hx hb hts in_Or hown hK hP 0 rfl rfl 5 (by decide) (hts _ k_201) (fun _ h9 => h9) rfl d_Or_readOrder_254 ?_
                  refine lv_iconst (v := (1 : Int32)) hx hb d_Or_readOrder_257 (by decide) ?_
                  refine lv_isub hx hb d_Or_readOrder_258 ?_
                  refine va_put (D := G.1) (ci := 2) (v := .int ((v.2.2.2.2.2.1 + (1 : Int32)) - (1 : Int32))) (ty := .int) (C := R_Or) (T := T_Or) (N := 7) hx hb hts in_Or ty_Or ty_Or_ok nm_Or hown hK hP hD hS 0 rfl rfl 6 (by decide) (hts _ k_202) (fun _ h9 => h9) rfl (ty_Or_ok 6 (by decide)) rfl rfl (Nat.le_of_ble_eq_true rfl) d_Or_readOrder_259 (fun H locs hP hD hS => ?_)
                  have hP : va_P G.1 vwCl (W_Or G a (r_37, v.2.1, v.2.2.1, v.2.2.2.1, v.2.2.2.2.1, (v.2.2.2.2.2.1 + (1 : Int32)), ((v.2.2.2.2.2.1 + (1 : Int32)) - (1 : Int32))) ++ W_Pd G b u) H := hP
                  have hD : va_D A (W_Or G a (r_37, v.2.1, v.2.2.1, v.2.2.2.1, v.2.2.2.2.1, (v.2.2.2.2.2.1 + (1 : Int32)), ((v.2.2.2.2.2.1 + (1 : Int32)) - (1 : Int32))) ++ W_Pd G b u) := hD
                  cases hf
                  exact kV hx hb hr hlk hP hD hS d_Or_readOrder_262
                · replace hf := ob_ef e_49_103 hf
                  by_cases e_49_104 : q_5 = (104 : Int32)
                  · replace hf := ob_et e_49_104 hf
                    refine lv_tableIn (off := 203) (tgt := 252) hx hb d_Or_readOrder_49 (by rw [e_49_104]; decide) (by rw [e_49_104]; decide) (by rw [e_49_104]; decide) (by decide) ?_
                    refine lv_aload_n hx hb d_Or_readOrder_252 rfl (lv_at hl 1 rfl) ?_
                    refine lv_aload_n hx hb d_Or_readOrder_253 rfl (lv_at hl 1 rfl) ?_
                    refine va_get (D := G.1) (ci := 2) (v := .int (v.2.2.2.2.2.1 + (1 : Int32))) (C := R_Or) (T := T_Or) (N := 7) hx hb hts in_Or hown hK hP 0 rfl rfl 5 (by decide) (hts _ k_201) (fun _ h9 => h9) rfl d_Or_readOrder_254 ?_
                    refine lv_iconst (v := (1 : Int32)) hx hb d_Or_readOrder_257 (by decide) ?_
                    refine lv_isub hx hb d_Or_readOrder_258 ?_
                    refine va_put (D := G.1) (ci := 2) (v := .int ((v.2.2.2.2.2.1 + (1 : Int32)) - (1 : Int32))) (ty := .int) (C := R_Or) (T := T_Or) (N := 7) hx hb hts in_Or ty_Or ty_Or_ok nm_Or hown hK hP hD hS 0 rfl rfl 6 (by decide) (hts _ k_202) (fun _ h9 => h9) rfl (ty_Or_ok 6 (by decide)) rfl rfl (Nat.le_of_ble_eq_true rfl) d_Or_readOrder_259 (fun H locs hP hD hS => ?_)
                    have hP : va_P G.1 vwCl (W_Or G a (r_37, v.2.1, v.2.2.1, v.2.2.2.1, v.2.2.2.2.1, (v.2.2.2.2.2.1 + (1 : Int32)), ((v.2.2.2.2.2.1 + (1 : Int32)) - (1 : Int32))) ++ W_Pd G b u) H := hP
                    have hD : va_D A (W_Or G a (r_37, v.2.1, v.2.2.1, v.2.2.2.1, v.2.2.2.2.1, (v.2.2.2.2.2.1 + (1 : Int32)), ((v.2.2.2.2.2.1 + (1 : Int32)) - (1 : Int32))) ++ W_Pd G b u) := hD
                    cases hf
                    exact kV hx hb hr hlk hP hD hS d_Or_readOrder_262
                  · replace hf := ob_ef e_49_104 hf
                    by_cases e_49_105 : q_5 = (105 : Int32)
                    · replace hf := ob_et e_49_105 hf
                      refine lv_tableIn (off := 203) (tgt := 252) hx hb d_Or_readOrder_49 (by rw [e_49_105]; decide) (by rw [e_49_105]; decide) (by rw [e_49_105]; decide) (by decide) ?_
                      refine lv_aload_n hx hb d_Or_readOrder_252 rfl (lv_at hl 1 rfl) ?_
                      refine lv_aload_n hx hb d_Or_readOrder_253 rfl (lv_at hl 1 rfl) ?_
                      refine va_get (D := G.1) (ci := 2) (v := .int (v.2.2.2.2.2.1 + (1 : Int32))) (C := R_Or) (T := T_Or) (N := 7) hx hb hts in_Or hown hK hP 0 rfl rfl 5 (by decide) (hts _ k_201) (fun _ h9 => h9) rfl d_Or_readOrder_254 ?_
                      refine lv_iconst (v := (1 : Int32)) hx hb d_Or_readOrder_257 (by decide) ?_
                      refine lv_isub hx hb d_Or_readOrder_258 ?_
                      refine va_put (D := G.1) (ci := 2) (v := .int ((v.2.2.2.2.2.1 + (1 : Int32)) - (1 : Int32))) (ty := .int) (C := R_Or) (T := T_Or) (N := 7) hx hb hts in_Or ty_Or ty_Or_ok nm_Or hown hK hP hD hS 0 rfl rfl 6 (by decide) (hts _ k_202) (fun _ h9 => h9) rfl (ty_Or_ok 6 (by decide)) rfl rfl (Nat.le_of_ble_eq_true rfl) d_Or_readOrder_259 (fun H locs hP hD hS => ?_)
                      have hP : va_P G.1 vwCl (W_Or G a (r_37, v.2.1, v.2.2.1, v.2.2.2.1, v.2.2.2.2.1, (v.2.2.2.2.2.1 + (1 : Int32)), ((v.2.2.2.2.2.1 + (1 : Int32)) - (1 : Int32))) ++ W_Pd G b u) H := hP
                      have hD : va_D A (W_Or G a (r_37, v.2.1, v.2.2.1, v.2.2.2.1, v.2.2.2.2.1, (v.2.2.2.2.2.1 + (1 : Int32)), ((v.2.2.2.2.2.1 + (1 : Int32)) - (1 : Int32))) ++ W_Pd G b u) := hD
                      cases hf
                      exact kV hx hb hr hlk hP hD hS d_Or_readOrder_262
                    · replace hf := ob_ef e_49_105 hf
                      by_cases e_49_106 : q_5 = (106 : Int32)
                      · replace hf := ob_et e_49_106 hf
                        refine lv_tableIn (off := 203) (tgt := 252) hx hb d_Or_readOrder_49 (by rw [e_49_106]; decide) (by rw [e_49_106]; decide) (by rw [e_49_106]; decide) (by decide) ?_
                        refine lv_aload_n hx hb d_Or_readOrder_252 rfl (lv_at hl 1 rfl) ?_
                        refine lv_aload_n hx hb d_Or_readOrder_253 rfl (lv_at hl 1 rfl) ?_
                        refine va_get (D := G.1) (ci := 2) (v := .int (v.2.2.2.2.2.1 + (1 : Int32))) (C := R_Or) (T := T_Or) (N := 7) hx hb hts in_Or hown hK hP 0 rfl rfl 5 (by decide) (hts _ k_201) (fun _ h9 => h9) rfl d_Or_readOrder_254 ?_
                        refine lv_iconst (v := (1 : Int32)) hx hb d_Or_readOrder_257 (by decide) ?_
                        refine lv_isub hx hb d_Or_readOrder_258 ?_
                        refine va_put (D := G.1) (ci := 2) (v := .int ((v.2.2.2.2.2.1 + (1 : Int32)) - (1 : Int32))) (ty := .int) (C := R_Or) (T := T_Or) (N := 7) hx hb hts in_Or ty_Or ty_Or_ok nm_Or hown hK hP hD hS 0 rfl rfl 6 (by decide) (hts _ k_202) (fun _ h9 => h9) rfl (ty_Or_ok 6 (by decide)) rfl rfl (Nat.le_of_ble_eq_true rfl) d_Or_readOrder_259 (fun H locs hP hD hS => ?_)
                        have hP : va_P G.1 vwCl (W_Or G a (r_37, v.2.1, v.2.2.1, v.2.2.2.1, v.2.2.2.2.1, (v.2.2.2.2.2.1 + (1 : Int32)), ((v.2.2.2.2.2.1 + (1 : Int32)) - (1 : Int32))) ++ W_Pd G b u) H := hP
                        have hD : va_D A (W_Or G a (r_37, v.2.1, v.2.2.1, v.2.2.2.1, v.2.2.2.2.1, (v.2.2.2.2.2.1 + (1 : Int32)), ((v.2.2.2.2.2.1 + (1 : Int32)) - (1 : Int32))) ++ W_Pd G b u) := hD
                        cases hf
                        exact kV hx hb hr hlk hP hD hS d_Or_readOrder_262
                      · replace hf := ob_ef e_49_106 hf
                        by_cases e_49_107 : q_5 = (107 : Int32)
                        · replace hf := ob_et e_49_107 hf
                          refine lv_tableIn (off := 203) (tgt := 252) hx hb d_Or_readOrder_49 (by rw [e_49_107]; decide) (by rw [e_49_107]; decide) (by rw [e_49_107]; decide) (by decide) ?_
                          refine lv_aload_n hx hb d_Or_readOrder_252 rfl (lv_at hl 1 rfl) ?_
                          refine lv_aload_n hx hb d_Or_readOrder_253 rfl (lv_at hl 1 rfl) ?_
                          refine va_get (D := G.1) (ci := 2) (v := .int (v.2.2.2.2.2.1 + (1 : Int32))) (C := R_Or) (T := T_Or) (N := 7) hx hb hts in_Or hown hK hP 0 rfl rfl 5 (by decide) (hts _ k_201) (fun _ h9 => h9) rfl d_Or_readOrder_254 ?_
                          refine lv_iconst (v := (1 : Int32)) hx hb d_Or_readOrder_257 (by decide) ?_
                          refine lv_isub hx hb d_Or_readOrder_258 ?_
                          refine va_put (D := G.1) (ci := 2) (v := .int ((v.2.2.2.2.2.1 + (1 : Int32)) - (1 : Int32))) (ty := .int) (C := R_Or) (T := T_Or) (N := 7) hx hb hts in_Or ty_Or ty_Or_ok nm_Or hown hK hP hD hS 0 rfl rfl 6 (by decide) (hts _ k_202) (fun _ h9 => h9) rfl (ty_Or_ok 6 (by decide)) rfl rfl (Nat.le_of_ble_eq_true rfl) d_Or_readOrder_259 (fun H locs hP hD hS => ?_)
                          have hP : va_P G.1 vwCl (W_Or G a (r_37, v.2.1, v.2.2.1, v.2.2.2.1, v.2.2.2.2.1, (v.2.2.2.2.2.1 + (1 : Int32)), ((v.2.2.2.2.2.1 + (1 : Int32)) - (1 : Int32))) ++ W_Pd G b u) H := hP
                          have hD : va_D A (W_Or G a (r_37, v.2.1, v.2.2.1, v.2.2.2.1, v.2.2.2.2.1, (v.2.2.2.2.2.1 + (1 : Int32)), ((v.2.2.2.2.2.1 + (1 : Int32)) - (1 : Int32))) ++ W_Pd G b u) := hD
                          cases hf
                          exact kV hx hb hr hlk hP hD hS d_Or_readOrder_262
                        · replace hf := ob_ef e_49_107 hf
                          by_cases e_49_108 : q_5 = (108 : Int32)
                          · replace hf := ob_et e_49_108 hf
                            refine lv_tableIn (off := 203) (tgt := 252) hx hb d_Or_readOrder_49 (by rw [e_49_108]; decide) (by rw [e_49_108]; decide) (by rw [e_49_108]; decide) (by decide) ?_
                            refine lv_aload_n hx hb d_Or_readOrder_252 rfl (lv_at hl 1 rfl) ?_
                            refine lv_aload_n hx hb d_Or_readOrder_253 rfl (lv_at hl 1 rfl) ?_
                            refine va_get (D := G.1) (ci := 2) (v := .int (v.2.2.2.2.2.1 + (1 : Int32))) (C := R_Or) (T := T_Or) (N := 7) hx hb hts in_Or hown hK hP 0 rfl rfl 5 (by decide) (hts _ k_201) (fun _ h9 => h9) rfl d_Or_readOrder_254 ?_
                            refine lv_iconst (v := (1 : Int32)) hx hb d_Or_readOrder_257 (by decide) ?_
                            refine lv_isub hx hb d_Or_readOrder_258 ?_
                            refine va_put (D := G.1) (ci := 2) (v := .int ((v.2.2.2.2.2.1 + (1 : Int32)) - (1 : Int32))) (ty := .int) (C := R_Or) (T := T_Or) (N := 7) hx hb hts in_Or ty_Or ty_Or_ok nm_Or hown hK hP hD hS 0 rfl rfl 6 (by decide) (hts _ k_202) (fun _ h9 => h9) rfl (ty_Or_ok 6 (by decide)) rfl rfl (Nat.le_of_ble_eq_true rfl) d_Or_readOrder_259 (fun H locs hP hD hS => ?_)
                            have hP : va_P G.1 vwCl (W_Or G a (r_37, v.2.1, v.2.2.1, v.2.2.2.1, v.2.2.2.2.1, (v.2.2.2.2.2.1 + (1 : Int32)), ((v.2.2.2.2.2.1 + (1 : Int32)) - (1 : Int32))) ++ W_Pd G b u) H := hP
                            have hD : va_D A (W_Or G a (r_37, v.2.1, v.2.2.1, v.2.2.2.1, v.2.2.2.2.1, (v.2.2.2.2.2.1 + (1 : Int32)), ((v.2.2.2.2.2.1 + (1 : Int32)) - (1 : Int32))) ++ W_Pd G b u) := hD
                            cases hf
                            exact kV hx hb hr hlk hP hD hS d_Or_readOrder_262
                          · replace hf := ob_ef e_49_108 hf
                            by_cases e_49_109 : q_5 = (109 : Int32)
                            · replace hf := ob_et e_49_109 hf
                              refine lv_tableIn (off := 186) (tgt := 235) hx hb d_Or_readOrder_49 (by rw [e_49_109]; decide) (by rw [e_49_109]; decide) (by rw [e_49_109]; decide) (by decide) ?_
                              exact J_235 (r_37, v.2.1, v.2.2.1, v.2.2.2.1, v.2.2.2.2.1, (v.2.2.2.2.2.1 + (1 : Int32)), v.2.2.2.2.2.2) u _ _ ls hP hD hS (lv_sub hl [1, 2] rfl) hf
                            · replace hf := ob_ef e_49_109 hf
                              by_cases e_49_110 : q_5 = (110 : Int32)
                              · replace hf := ob_et e_49_110 hf
                                refine lv_tableIn (off := 203) (tgt := 252) hx hb d_Or_readOrder_49 (by rw [e_49_110]; decide) (by rw [e_49_110]; decide) (by rw [e_49_110]; decide) (by decide) ?_
                                refine lv_aload_n hx hb d_Or_readOrder_252 rfl (lv_at hl 1 rfl) ?_
                                refine lv_aload_n hx hb d_Or_readOrder_253 rfl (lv_at hl 1 rfl) ?_
                                refine va_get (D := G.1) (ci := 2) (v := .int (v.2.2.2.2.2.1 + (1 : Int32))) (C := R_Or) (T := T_Or) (N := 7) hx hb hts in_Or hown hK hP 0 rfl rfl 5 (by decide) (hts _ k_201) (fun _ h9 => h9) rfl d_Or_readOrder_254 ?_
                                refine lv_iconst (v := (1 : Int32)) hx hb d_Or_readOrder_257 (by decide) ?_
                                refine lv_isub hx hb d_Or_readOrder_258 ?_
                                refine va_put (D := G.1) (ci := 2) (v := .int ((v.2.2.2.2.2.1 + (1 : Int32)) - (1 : Int32))) (ty := .int) (C := R_Or) (T := T_Or) (N := 7) hx hb hts in_Or ty_Or ty_Or_ok nm_Or hown hK hP hD hS 0 rfl rfl 6 (by decide) (hts _ k_202) (fun _ h9 => h9) rfl (ty_Or_ok 6 (by decide)) rfl rfl (Nat.le_of_ble_eq_true rfl) d_Or_readOrder_259 (fun H locs hP hD hS => ?_)
                                have hP : va_P G.1 vwCl (W_Or G a (r_37, v.2.1, v.2.2.1, v.2.2.2.1, v.2.2.2.2.1, (v.2.2.2.2.2.1 + (1 : Int32)), ((v.2.2.2.2.2.1 + (1 : Int32)) - (1 : Int32))) ++ W_Pd G b u) H := hP
                                have hD : va_D A (W_Or G a (r_37, v.2.1, v.2.2.1, v.2.2.2.1, v.2.2.2.2.1, (v.2.2.2.2.2.1 + (1 : Int32)), ((v.2.2.2.2.2.1 + (1 : Int32)) - (1 : Int32))) ++ W_Pd G b u) := hD
                                cases hf
                                exact kV hx hb hr hlk hP hD hS d_Or_readOrder_262
                              · replace hf := ob_ef e_49_110 hf
                                by_cases e_49_111 : q_5 = (111 : Int32)
                                · replace hf := ob_et e_49_111 hf
                                  refine lv_tableIn (off := 203) (tgt := 252) hx hb d_Or_readOrder_49 (by rw [e_49_111]; decide) (by rw [e_49_111]; decide) (by rw [e_49_111]; decide) (by decide) ?_
                                  refine lv_aload_n hx hb d_Or_readOrder_252 rfl (lv_at hl 1 rfl) ?_
                                  refine lv_aload_n hx hb d_Or_readOrder_253 rfl (lv_at hl 1 rfl) ?_
                                  refine va_get (D := G.1) (ci := 2) (v := .int (v.2.2.2.2.2.1 + (1 : Int32))) (C := R_Or) (T := T_Or) (N := 7) hx hb hts in_Or hown hK hP 0 rfl rfl 5 (by decide) (hts _ k_201) (fun _ h9 => h9) rfl d_Or_readOrder_254 ?_
                                  refine lv_iconst (v := (1 : Int32)) hx hb d_Or_readOrder_257 (by decide) ?_
                                  refine lv_isub hx hb d_Or_readOrder_258 ?_
                                  refine va_put (D := G.1) (ci := 2) (v := .int ((v.2.2.2.2.2.1 + (1 : Int32)) - (1 : Int32))) (ty := .int) (C := R_Or) (T := T_Or) (N := 7) hx hb hts in_Or ty_Or ty_Or_ok nm_Or hown hK hP hD hS 0 rfl rfl 6 (by decide) (hts _ k_202) (fun _ h9 => h9) rfl (ty_Or_ok 6 (by decide)) rfl rfl (Nat.le_of_ble_eq_true rfl) d_Or_readOrder_259 (fun H locs hP hD hS => ?_)
                                  have hP : va_P G.1 vwCl (W_Or G a (r_37, v.2.1, v.2.2.1, v.2.2.2.1, v.2.2.2.2.1, (v.2.2.2.2.2.1 + (1 : Int32)), ((v.2.2.2.2.2.1 + (1 : Int32)) - (1 : Int32))) ++ W_Pd G b u) H := hP
                                  have hD : va_D A (W_Or G a (r_37, v.2.1, v.2.2.1, v.2.2.2.1, v.2.2.2.2.1, (v.2.2.2.2.2.1 + (1 : Int32)), ((v.2.2.2.2.2.1 + (1 : Int32)) - (1 : Int32))) ++ W_Pd G b u) := hD
                                  cases hf
                                  exact kV hx hb hr hlk hP hD hS d_Or_readOrder_262
                                · replace hf := ob_ef e_49_111 hf
                                  by_cases e_49_112 : q_5 = (112 : Int32)
                                  · replace hf := ob_et e_49_112 hf
                                    refine lv_tableIn (off := 169) (tgt := 218) hx hb d_Or_readOrder_49 (by rw [e_49_112]; decide) (by rw [e_49_112]; decide) (by rw [e_49_112]; decide) (by decide) ?_
                                    refine lv_aload_n hx hb d_Or_readOrder_218 rfl (lv_at hl 1 rfl) ?_
                                    refine va_get (D := G.1) (ci := 2) (v := .ref (a 3)) (C := R_Or) (T := T_Or) (N := 7) hx hb hts in_Or hown hK hP 0 rfl rfl 2 (by decide) (hts _ k_198) (fun _ h9 => h9) rfl d_Or_readOrder_219 ?_
                                    refine lv_aload_n hx hb d_Or_readOrder_222 rfl (lv_at hl 1 rfl) ?_
                                    refine va_get (D := G.1) (ci := 2) (v := .int v.2.2.2.2.1) (C := R_Or) (T := T_Or) (N := 7) hx hb hts in_Or hown hK hP 0 rfl rfl 4 (by decide) (hts _ k_200) (fun _ h9 => h9) rfl d_Or_readOrder_223 ?_
                                    refine lv_aload_n hx hb d_Or_readOrder_226 rfl (lv_at hl 1 rfl) ?_
                                    refine lv_aload_n hx hb d_Or_readOrder_227 rfl (lv_at hl 2 rfl) ?_
                                    obtain ⟨q_228, hc_228, hf⟩ := oc_e hf
                                    refine kcV (cc := c_Or_readOrder) (own := "FloodDiary$Orders") (index := 83) (wc := W_Or G a (r_37, v.2.1, v.2.2.1, v.2.2.2.1, v.2.2.2.2.1, (v.2.2.2.2.2.1 + (1 : Int32)), v.2.2.2.2.2.2) ++ W_Pd G b u) (wr := ([] : va_W)) (wc' := W_Or G a q_228.2 ++ W_Pd G b u) (ws' := W_Or G a q_228.2 ++ W_Pd G b u) hx hb hml hown hts hK hN hA hP hD hS (t_Or_readPage l G a b (r_37, v.2.1, v.2.2.1, v.2.2.2.1, v.2.2.2.2.1, (v.2.2.2.2.2.1 + (1 : Int32)), v.2.2.2.2.2.2) u q_228 hc_228) m_Or_readPage k_683 ⟨Nat.le_of_ble_eq_true rfl, Nat.le_of_ble_eq_true rfl⟩ (pm_10 (W_Or G a (r_37, v.2.1, v.2.2.1, v.2.2.2.1, v.2.2.2.2.1, (v.2.2.2.2.2.1 + (1 : Int32)), v.2.2.2.2.2.2)) (W_Pd G b u)) (pm_10 (W_Or G a q_228.2) (W_Pd G b u)).symm 2 0 rfl rfl rfl rfl rfl (Nat.le_of_ble_eq_true rfl) hl.1 d_Or_readOrder_228 ⟨Nat.zero_le _, Nat.zero_le _⟩ (fun H locs hP hD hS => ?_)
                                    obtain ⟨g_231, hf⟩ := og_e hf
                                    obtain ⟨r_231, er_231, hf⟩ := nx_e hf
                                    refine va_iast hx hb hK hP hD hS 3 0 rfl rfl g_231 d_Or_readOrder_231 (fun H locs hP hD hS => ?_)
                                    rw [← er_231] at hP hD
                                    have hP : va_P G.1 vwCl (W_Or G a (q_228.2.1, q_228.2.2.1, r_231, q_228.2.2.2.2.1, q_228.2.2.2.2.2.1, q_228.2.2.2.2.2.2.1, q_228.2.2.2.2.2.2.2) ++ W_Pd G b u) H := hP
                                    have hD : va_D A (W_Or G a (q_228.2.1, q_228.2.2.1, r_231, q_228.2.2.2.2.1, q_228.2.2.2.2.2.1, q_228.2.2.2.2.2.2.1, q_228.2.2.2.2.2.2.2) ++ W_Pd G b u) := hD
                                    refine lv_goto (tgt := 263) hx hb d_Or_readOrder_232 (by decide) ?_
                                    refine lv_aload_n hx hb d_Or_readOrder_263 rfl (lv_at hl 1 rfl) ?_
                                    refine lv_dup hx hb d_Or_readOrder_264 rfl ?_
                                    refine va_get (D := G.1) (ci := 2) (v := .int q_228.2.2.2.2.2.1) (C := R_Or) (T := T_Or) (N := 7) hx hb hts in_Or hown hK hP 0 rfl rfl 4 (by decide) (hts _ k_200) (fun _ h9 => h9) rfl d_Or_readOrder_265 ?_
                                    refine lv_iconst (v := (1 : Int32)) hx hb d_Or_readOrder_268 (by decide) ?_
                                    refine lv_iadd hx hb d_Or_readOrder_269 ?_
                                    refine va_put (D := G.1) (ci := 2) (v := .int (q_228.2.2.2.2.2.1 + (1 : Int32))) (ty := .int) (C := R_Or) (T := T_Or) (N := 7) hx hb hts in_Or ty_Or ty_Or_ok nm_Or hown hK hP hD hS 0 rfl rfl 4 (by decide) (hts _ k_200) (fun _ h9 => h9) rfl (ty_Or_ok 4 (by decide)) rfl rfl (Nat.le_of_ble_eq_true rfl) d_Or_readOrder_270 (fun H locs hP hD hS => ?_)
                                    have hP : va_P G.1 vwCl (W_Or G a (q_228.2.1, q_228.2.2.1, r_231, q_228.2.2.2.2.1, (q_228.2.2.2.2.2.1 + (1 : Int32)), q_228.2.2.2.2.2.2.1, q_228.2.2.2.2.2.2.2) ++ W_Pd G b u) H := hP
                                    have hD : va_D A (W_Or G a (q_228.2.1, q_228.2.2.1, r_231, q_228.2.2.2.2.1, (q_228.2.2.2.2.2.1 + (1 : Int32)), q_228.2.2.2.2.2.2.1, q_228.2.2.2.2.2.2.2) ++ W_Pd G b u) := hD
                                    cases hf
                                    exact kV hx hb hr hlk hP hD hS d_Or_readOrder_273
                                  · replace hf := ob_ef e_49_112 hf
                                    by_cases e_49_113 : q_5 = (113 : Int32)
                                    · replace hf := ob_et e_49_113 hf
                                      refine lv_tableIn (off := 203) (tgt := 252) hx hb d_Or_readOrder_49 (by rw [e_49_113]; decide) (by rw [e_49_113]; decide) (by rw [e_49_113]; decide) (by decide) ?_
                                      refine lv_aload_n hx hb d_Or_readOrder_252 rfl (lv_at hl 1 rfl) ?_
                                      refine lv_aload_n hx hb d_Or_readOrder_253 rfl (lv_at hl 1 rfl) ?_
                                      refine va_get (D := G.1) (ci := 2) (v := .int (v.2.2.2.2.2.1 + (1 : Int32))) (C := R_Or) (T := T_Or) (N := 7) hx hb hts in_Or hown hK hP 0 rfl rfl 5 (by decide) (hts _ k_201) (fun _ h9 => h9) rfl d_Or_readOrder_254 ?_
                                      refine lv_iconst (v := (1 : Int32)) hx hb d_Or_readOrder_257 (by decide) ?_
                                      refine lv_isub hx hb d_Or_readOrder_258 ?_
                                      refine va_put (D := G.1) (ci := 2) (v := .int ((v.2.2.2.2.2.1 + (1 : Int32)) - (1 : Int32))) (ty := .int) (C := R_Or) (T := T_Or) (N := 7) hx hb hts in_Or ty_Or ty_Or_ok nm_Or hown hK hP hD hS 0 rfl rfl 6 (by decide) (hts _ k_202) (fun _ h9 => h9) rfl (ty_Or_ok 6 (by decide)) rfl rfl (Nat.le_of_ble_eq_true rfl) d_Or_readOrder_259 (fun H locs hP hD hS => ?_)
                                      have hP : va_P G.1 vwCl (W_Or G a (r_37, v.2.1, v.2.2.1, v.2.2.2.1, v.2.2.2.2.1, (v.2.2.2.2.2.1 + (1 : Int32)), ((v.2.2.2.2.2.1 + (1 : Int32)) - (1 : Int32))) ++ W_Pd G b u) H := hP
                                      have hD : va_D A (W_Or G a (r_37, v.2.1, v.2.2.1, v.2.2.2.1, v.2.2.2.2.1, (v.2.2.2.2.2.1 + (1 : Int32)), ((v.2.2.2.2.2.1 + (1 : Int32)) - (1 : Int32))) ++ W_Pd G b u) := hD
                                      cases hf
                                      exact kV hx hb hr hlk hP hD hS d_Or_readOrder_262
                                    · replace hf := ob_ef e_49_113 hf
                                      by_cases e_49_114 : q_5 = (114 : Int32)
                                      · replace hf := ob_et e_49_114 hf
                                        refine lv_tableIn (off := 203) (tgt := 252) hx hb d_Or_readOrder_49 (by rw [e_49_114]; decide) (by rw [e_49_114]; decide) (by rw [e_49_114]; decide) (by decide) ?_
                                        refine lv_aload_n hx hb d_Or_readOrder_252 rfl (lv_at hl 1 rfl) ?_
                                        refine lv_aload_n hx hb d_Or_readOrder_253 rfl (lv_at hl 1 rfl) ?_
                                        refine va_get (D := G.1) (ci := 2) (v := .int (v.2.2.2.2.2.1 + (1 : Int32))) (C := R_Or) (T := T_Or) (N := 7) hx hb hts in_Or hown hK hP 0 rfl rfl 5 (by decide) (hts _ k_201) (fun _ h9 => h9) rfl d_Or_readOrder_254 ?_
                                        refine lv_iconst (v := (1 : Int32)) hx hb d_Or_readOrder_257 (by decide) ?_
                                        refine lv_isub hx hb d_Or_readOrder_258 ?_
                                        refine va_put (D := G.1) (ci := 2) (v := .int ((v.2.2.2.2.2.1 + (1 : Int32)) - (1 : Int32))) (ty := .int) (C := R_Or) (T := T_Or) (N := 7) hx hb hts in_Or ty_Or ty_Or_ok nm_Or hown hK hP hD hS 0 rfl rfl 6 (by decide) (hts _ k_202) (fun _ h9 => h9) rfl (ty_Or_ok 6 (by decide)) rfl rfl (Nat.le_of_ble_eq_true rfl) d_Or_readOrder_259 (fun H locs hP hD hS => ?_)
                                        have hP : va_P G.1 vwCl (W_Or G a (r_37, v.2.1, v.2.2.1, v.2.2.2.1, v.2.2.2.2.1, (v.2.2.2.2.2.1 + (1 : Int32)), ((v.2.2.2.2.2.1 + (1 : Int32)) - (1 : Int32))) ++ W_Pd G b u) H := hP
                                        have hD : va_D A (W_Or G a (r_37, v.2.1, v.2.2.1, v.2.2.2.1, v.2.2.2.2.1, (v.2.2.2.2.2.1 + (1 : Int32)), ((v.2.2.2.2.2.1 + (1 : Int32)) - (1 : Int32))) ++ W_Pd G b u) := hD
                                        cases hf
                                        exact kV hx hb hr hlk hP hD hS d_Or_readOrder_262
                                      · replace hf := ob_ef e_49_114 hf
                                        by_cases e_49_115 : q_5 = (115 : Int32)
                                        · replace hf := ob_et e_49_115 hf
                                          refine lv_tableIn (off := 186) (tgt := 235) hx hb d_Or_readOrder_49 (by rw [e_49_115]; decide) (by rw [e_49_115]; decide) (by rw [e_49_115]; decide) (by decide) ?_
                                          exact J_235 (r_37, v.2.1, v.2.2.1, v.2.2.2.1, v.2.2.2.2.1, (v.2.2.2.2.2.1 + (1 : Int32)), v.2.2.2.2.2.2) u _ _ ls hP hD hS (lv_sub hl [1, 2] rfl) hf
                                        · replace hf := ob_ef e_49_115 hf
                                          by_cases e_49_116 : q_5 = (116 : Int32)
                                          · replace hf := ob_et e_49_116 hf
                                            refine lv_tableIn (off := 186) (tgt := 235) hx hb d_Or_readOrder_49 (by rw [e_49_116]; decide) (by rw [e_49_116]; decide) (by rw [e_49_116]; decide) (by decide) ?_
                                            exact J_235 (r_37, v.2.1, v.2.2.1, v.2.2.2.1, v.2.2.2.2.1, (v.2.2.2.2.2.1 + (1 : Int32)), v.2.2.2.2.2.2) u _ _ ls hP hD hS (lv_sub hl [1, 2] rfl) hf
                                          · replace hf := ob_ef e_49_116 hf
                                            by_cases e_49_117 : q_5 = (117 : Int32)
                                            · replace hf := ob_et e_49_117 hf
                                              refine lv_tableIn (off := 203) (tgt := 252) hx hb d_Or_readOrder_49 (by rw [e_49_117]; decide) (by rw [e_49_117]; decide) (by rw [e_49_117]; decide) (by decide) ?_
                                              refine lv_aload_n hx hb d_Or_readOrder_252 rfl (lv_at hl 1 rfl) ?_
                                              refine lv_aload_n hx hb d_Or_readOrder_253 rfl (lv_at hl 1 rfl) ?_
                                              refine va_get (D := G.1) (ci := 2) (v := .int (v.2.2.2.2.2.1 + (1 : Int32))) (C := R_Or) (T := T_Or) (N := 7) hx hb hts in_Or hown hK hP 0 rfl rfl 5 (by decide) (hts _ k_201) (fun _ h9 => h9) rfl d_Or_readOrder_254 ?_
                                              refine lv_iconst (v := (1 : Int32)) hx hb d_Or_readOrder_257 (by decide) ?_
                                              refine lv_isub hx hb d_Or_readOrder_258 ?_
                                              refine va_put (D := G.1) (ci := 2) (v := .int ((v.2.2.2.2.2.1 + (1 : Int32)) - (1 : Int32))) (ty := .int) (C := R_Or) (T := T_Or) (N := 7) hx hb hts in_Or ty_Or ty_Or_ok nm_Or hown hK hP hD hS 0 rfl rfl 6 (by decide) (hts _ k_202) (fun _ h9 => h9) rfl (ty_Or_ok 6 (by decide)) rfl rfl (Nat.le_of_ble_eq_true rfl) d_Or_readOrder_259 (fun H locs hP hD hS => ?_)
                                              have hP : va_P G.1 vwCl (W_Or G a (r_37, v.2.1, v.2.2.1, v.2.2.2.1, v.2.2.2.2.1, (v.2.2.2.2.2.1 + (1 : Int32)), ((v.2.2.2.2.2.1 + (1 : Int32)) - (1 : Int32))) ++ W_Pd G b u) H := hP
                                              have hD : va_D A (W_Or G a (r_37, v.2.1, v.2.2.1, v.2.2.2.1, v.2.2.2.2.1, (v.2.2.2.2.2.1 + (1 : Int32)), ((v.2.2.2.2.2.1 + (1 : Int32)) - (1 : Int32))) ++ W_Pd G b u) := hD
                                              cases hf
                                              exact kV hx hb hr hlk hP hD hS d_Or_readOrder_262
                                            · replace hf := ob_ef e_49_117 hf
                                              by_cases e_49_118 : q_5 = (118 : Int32)
                                              · replace hf := ob_et e_49_118 hf
                                                refine lv_tableIn (off := 203) (tgt := 252) hx hb d_Or_readOrder_49 (by rw [e_49_118]; decide) (by rw [e_49_118]; decide) (by rw [e_49_118]; decide) (by decide) ?_
                                                refine lv_aload_n hx hb d_Or_readOrder_252 rfl (lv_at hl 1 rfl) ?_
                                                refine lv_aload_n hx hb d_Or_readOrder_253 rfl (lv_at hl 1 rfl) ?_
                                                refine va_get (D := G.1) (ci := 2) (v := .int (v.2.2.2.2.2.1 + (1 : Int32))) (C := R_Or) (T := T_Or) (N := 7) hx hb hts in_Or hown hK hP 0 rfl rfl 5 (by decide) (hts _ k_201) (fun _ h9 => h9) rfl d_Or_readOrder_254 ?_
                                                refine lv_iconst (v := (1 : Int32)) hx hb d_Or_readOrder_257 (by decide) ?_
                                                refine lv_isub hx hb d_Or_readOrder_258 ?_
                                                refine va_put (D := G.1) (ci := 2) (v := .int ((v.2.2.2.2.2.1 + (1 : Int32)) - (1 : Int32))) (ty := .int) (C := R_Or) (T := T_Or) (N := 7) hx hb hts in_Or ty_Or ty_Or_ok nm_Or hown hK hP hD hS 0 rfl rfl 6 (by decide) (hts _ k_202) (fun _ h9 => h9) rfl (ty_Or_ok 6 (by decide)) rfl rfl (Nat.le_of_ble_eq_true rfl) d_Or_readOrder_259 (fun H locs hP hD hS => ?_)
                                                have hP : va_P G.1 vwCl (W_Or G a (r_37, v.2.1, v.2.2.1, v.2.2.2.1, v.2.2.2.2.1, (v.2.2.2.2.2.1 + (1 : Int32)), ((v.2.2.2.2.2.1 + (1 : Int32)) - (1 : Int32))) ++ W_Pd G b u) H := hP
                                                have hD : va_D A (W_Or G a (r_37, v.2.1, v.2.2.1, v.2.2.2.1, v.2.2.2.2.1, (v.2.2.2.2.2.1 + (1 : Int32)), ((v.2.2.2.2.2.1 + (1 : Int32)) - (1 : Int32))) ++ W_Pd G b u) := hD
                                                cases hf
                                                exact kV hx hb hr hlk hP hD hS d_Or_readOrder_262
                                              · replace hf := ob_ef e_49_118 hf
                                                by_cases e_49_119 : q_5 = (119 : Int32)
                                                · replace hf := ob_et e_49_119 hf
                                                  refine lv_tableIn (off := 110) (tgt := 159) hx hb d_Or_readOrder_49 (by rw [e_49_119]; decide) (by rw [e_49_119]; decide) (by rw [e_49_119]; decide) (by decide) ?_
                                                  refine lv_aload_n hx hb d_Or_readOrder_159 rfl (lv_at hl 1 rfl) ?_
                                                  refine va_get (D := G.1) (ci := 2) (v := .ref (a 2)) (C := R_Or) (T := T_Or) (N := 7) hx hb hts in_Or hown hK hP 0 rfl rfl 1 (by decide) (hts _ k_197) (fun _ h9 => h9) rfl d_Or_readOrder_160 ?_
                                                  refine lv_aload_n hx hb d_Or_readOrder_163 rfl (lv_at hl 1 rfl) ?_
                                                  refine va_get (D := G.1) (ci := 2) (v := .int v.2.2.2.2.1) (C := R_Or) (T := T_Or) (N := 7) hx hb hts in_Or hown hK hP 0 rfl rfl 4 (by decide) (hts _ k_200) (fun _ h9 => h9) rfl d_Or_readOrder_164 ?_
                                                  refine lv_aload_n hx hb d_Or_readOrder_167 rfl (lv_at hl 1 rfl) ?_
                                                  refine lv_aload_n hx hb d_Or_readOrder_168 rfl (lv_at hl 2 rfl) ?_
                                                  obtain ⟨q_169, hc_169, hf⟩ := oc_e hf
                                                  refine kcV (cc := c_Or_readOrder) (own := "FloodDiary$Orders") (index := 79) (wc := W_Or G a (r_37, v.2.1, v.2.2.1, v.2.2.2.1, v.2.2.2.2.1, (v.2.2.2.2.2.1 + (1 : Int32)), v.2.2.2.2.2.2) ++ W_Pd G b u) (wr := ([] : va_W)) (wc' := W_Or G a q_169.2 ++ W_Pd G b u) (ws' := W_Or G a q_169.2 ++ W_Pd G b u) hx hb hml hown hts hK hN hA hP hD hS (t_Or_readNumber l G a b (r_37, v.2.1, v.2.2.1, v.2.2.2.1, v.2.2.2.2.1, (v.2.2.2.2.2.1 + (1 : Int32)), v.2.2.2.2.2.2) u q_169 hc_169) m_Or_readNumber k_672 ⟨Nat.le_of_ble_eq_true rfl, Nat.le_of_ble_eq_true rfl⟩ (pm_10 (W_Or G a (r_37, v.2.1, v.2.2.1, v.2.2.2.1, v.2.2.2.2.1, (v.2.2.2.2.2.1 + (1 : Int32)), v.2.2.2.2.2.2)) (W_Pd G b u)) (pm_10 (W_Or G a q_169.2) (W_Pd G b u)).symm 2 0 rfl rfl rfl rfl rfl (Nat.le_of_ble_eq_true rfl) hl.1 d_Or_readOrder_169 ⟨Nat.zero_le _, Nat.zero_le _⟩ (fun H locs hP hD hS => ?_)
                                                  obtain ⟨g_172, hf⟩ := og_e hf
                                                  obtain ⟨r_172, er_172, hf⟩ := nx_e hf
                                                  refine va_iast hx hb hK hP hD hS 2 0 rfl rfl g_172 d_Or_readOrder_172 (fun H locs hP hD hS => ?_)
                                                  rw [← er_172] at hP hD
                                                  have hP : va_P G.1 vwCl (W_Or G a (q_169.2.1, r_172, q_169.2.2.2.1, q_169.2.2.2.2.1, q_169.2.2.2.2.2.1, q_169.2.2.2.2.2.2.1, q_169.2.2.2.2.2.2.2) ++ W_Pd G b u) H := hP
                                                  have hD : va_D A (W_Or G a (q_169.2.1, r_172, q_169.2.2.2.1, q_169.2.2.2.2.1, q_169.2.2.2.2.2.1, q_169.2.2.2.2.2.2.1, q_169.2.2.2.2.2.2.2) ++ W_Pd G b u) := hD
                                                  refine lv_aload_n hx hb d_Or_readOrder_173 rfl (lv_at hl 1 rfl) ?_
                                                  refine lv_aload_n hx hb d_Or_readOrder_174 rfl (lv_at hl 2 rfl) ?_
                                                  refine lv_bipush (v := (62 : Int32)) hx hb d_Or_readOrder_175 (by decide) ?_
                                                  obtain ⟨q_177, hc_177, hf⟩ := oc_e hf
                                                  refine kcVv (cc := c_Or_readOrder) (own := "FloodDiary$Orders") (index := 44) (wc := W_Or G a (q_169.2.1, r_172, q_169.2.2.2.1, q_169.2.2.2.2.1, q_169.2.2.2.2.2.1, q_169.2.2.2.2.2.2.1, q_169.2.2.2.2.2.2.2) ++ W_Pd G b u) (wr := ([] : va_W)) (wc' := W_Or G a q_177 ++ W_Pd G b u) (ws' := W_Or G a q_177 ++ W_Pd G b u) hx hb hml hown hts hK hN hA hP hD hS (t_Or_expect l G a b (62 : Int32) (q_169.2.1, r_172, q_169.2.2.2.1, q_169.2.2.2.2.1, q_169.2.2.2.2.2.1, q_169.2.2.2.2.2.2.1, q_169.2.2.2.2.2.2.2) u q_177 hc_177) m_Or_expect k_679 ⟨Nat.le_of_ble_eq_true rfl, Nat.le_of_ble_eq_true rfl⟩ (pm_10 (W_Or G a (q_169.2.1, r_172, q_169.2.2.2.1, q_169.2.2.2.2.1, q_169.2.2.2.2.2.1, q_169.2.2.2.2.2.2.1, q_169.2.2.2.2.2.2.2)) (W_Pd G b u)) (pm_10 (W_Or G a q_177) (W_Pd G b u)).symm 2 0 rfl rfl rfl rfl rfl (Nat.le_of_ble_eq_true rfl) hl.1 d_Or_readOrder_177 ⟨Nat.zero_le _, Nat.zero_le _⟩ (fun H locs hP hD hS => ?_)
                                                  refine lv_aload_n hx hb d_Or_readOrder_180 rfl (lv_at hl 1 rfl) ?_
                                                  refine va_get (D := G.1) (ci := 2) (v := .ref (a 3)) (C := R_Or) (T := T_Or) (N := 7) hx hb hts in_Or hown hK hP 0 rfl rfl 2 (by decide) (hts _ k_198) (fun _ h9 => h9) rfl d_Or_readOrder_181 ?_
                                                  refine lv_aload_n hx hb d_Or_readOrder_184 rfl (lv_at hl 1 rfl) ?_
                                                  refine va_get (D := G.1) (ci := 2) (v := .int q_177.2.2.2.2.1) (C := R_Or) (T := T_Or) (N := 7) hx hb hts in_Or hown hK hP 0 rfl rfl 4 (by decide) (hts _ k_200) (fun _ h9 => h9) rfl d_Or_readOrder_185 ?_
                                                  refine lv_aload_n hx hb d_Or_readOrder_188 rfl (lv_at hl 1 rfl) ?_
                                                  refine lv_aload_n hx hb d_Or_readOrder_189 rfl (lv_at hl 2 rfl) ?_
                                                  obtain ⟨q_190, hc_190, hf⟩ := oc_e hf
                                                  refine kcV (cc := c_Or_readOrder) (own := "FloodDiary$Orders") (index := 83) (wc := W_Or G a q_177 ++ W_Pd G b u) (wr := ([] : va_W)) (wc' := W_Or G a q_190.2 ++ W_Pd G b u) (ws' := W_Or G a q_190.2 ++ W_Pd G b u) hx hb hml hown hts hK hN hA hP hD hS (t_Or_readPage l G a b q_177 u q_190 hc_190) m_Or_readPage k_683 ⟨Nat.le_of_ble_eq_true rfl, Nat.le_of_ble_eq_true rfl⟩ (pm_10 (W_Or G a q_177) (W_Pd G b u)) (pm_10 (W_Or G a q_190.2) (W_Pd G b u)).symm 2 0 rfl rfl rfl rfl rfl (Nat.le_of_ble_eq_true rfl) hl.1 d_Or_readOrder_190 ⟨Nat.zero_le _, Nat.zero_le _⟩ (fun H locs hP hD hS => ?_)
                                                  obtain ⟨g_193, hf⟩ := og_e hf
                                                  obtain ⟨r_193, er_193, hf⟩ := nx_e hf
                                                  refine va_iast hx hb hK hP hD hS 3 0 rfl rfl g_193 d_Or_readOrder_193 (fun H locs hP hD hS => ?_)
                                                  rw [← er_193] at hP hD
                                                  have hP : va_P G.1 vwCl (W_Or G a (q_190.2.1, q_190.2.2.1, r_193, q_190.2.2.2.2.1, q_190.2.2.2.2.2.1, q_190.2.2.2.2.2.2.1, q_190.2.2.2.2.2.2.2) ++ W_Pd G b u) H := hP
                                                  have hD : va_D A (W_Or G a (q_190.2.1, q_190.2.2.1, r_193, q_190.2.2.2.2.1, q_190.2.2.2.2.2.1, q_190.2.2.2.2.2.2.1, q_190.2.2.2.2.2.2.2) ++ W_Pd G b u) := hD
                                                  refine lv_aload_n hx hb d_Or_readOrder_194 rfl (lv_at hl 1 rfl) ?_
                                                  refine lv_aload_n hx hb d_Or_readOrder_195 rfl (lv_at hl 2 rfl) ?_
                                                  refine lv_bipush (v := (61 : Int32)) hx hb d_Or_readOrder_196 (by decide) ?_
                                                  obtain ⟨q_198, hc_198, hf⟩ := oc_e hf
                                                  refine kcVv (cc := c_Or_readOrder) (own := "FloodDiary$Orders") (index := 44) (wc := W_Or G a (q_190.2.1, q_190.2.2.1, r_193, q_190.2.2.2.2.1, q_190.2.2.2.2.2.1, q_190.2.2.2.2.2.2.1, q_190.2.2.2.2.2.2.2) ++ W_Pd G b u) (wr := ([] : va_W)) (wc' := W_Or G a q_198 ++ W_Pd G b u) (ws' := W_Or G a q_198 ++ W_Pd G b u) hx hb hml hown hts hK hN hA hP hD hS (t_Or_expect l G a b (61 : Int32) (q_190.2.1, q_190.2.2.1, r_193, q_190.2.2.2.2.1, q_190.2.2.2.2.2.1, q_190.2.2.2.2.2.2.1, q_190.2.2.2.2.2.2.2) u q_198 hc_198) m_Or_expect k_679 ⟨Nat.le_of_ble_eq_true rfl, Nat.le_of_ble_eq_true rfl⟩ (pm_10 (W_Or G a (q_190.2.1, q_190.2.2.1, r_193, q_190.2.2.2.2.1, q_190.2.2.2.2.2.1, q_190.2.2.2.2.2.2.1, q_190.2.2.2.2.2.2.2)) (W_Pd G b u)) (pm_10 (W_Or G a q_198) (W_Pd G b u)).symm 2 0 rfl rfl rfl rfl rfl (Nat.le_of_ble_eq_true rfl) hl.1 d_Or_readOrder_198 ⟨Nat.zero_le _, Nat.zero_le _⟩ (fun H locs hP hD hS => ?_)
                                                  refine lv_aload_n hx hb d_Or_readOrder_201 rfl (lv_at hl 1 rfl) ?_
                                                  refine va_get (D := G.1) (ci := 2) (v := .ref (a 4)) (C := R_Or) (T := T_Or) (N := 7) hx hb hts in_Or hown hK hP 0 rfl rfl 3 (by decide) (hts _ k_199) (fun _ h9 => h9) rfl d_Or_readOrder_202 ?_
                                                  refine lv_aload_n hx hb d_Or_readOrder_205 rfl (lv_at hl 1 rfl) ?_
                                                  refine va_get (D := G.1) (ci := 2) (v := .int q_198.2.2.2.2.1) (C := R_Or) (T := T_Or) (N := 7) hx hb hts in_Or hown hK hP 0 rfl rfl 4 (by decide) (hts _ k_200) (fun _ h9 => h9) rfl d_Or_readOrder_206 ?_
                                                  refine lv_aload_n hx hb d_Or_readOrder_209 rfl (lv_at hl 1 rfl) ?_
                                                  refine lv_aload_n hx hb d_Or_readOrder_210 rfl (lv_at hl 2 rfl) ?_
                                                  obtain ⟨q_211, hc_211, hf⟩ := oc_e hf
                                                  refine kcV (cc := c_Or_readOrder) (own := "FloodDiary$Orders") (index := 79) (wc := W_Or G a q_198 ++ W_Pd G b u) (wr := ([] : va_W)) (wc' := W_Or G a q_211.2 ++ W_Pd G b u) (ws' := W_Or G a q_211.2 ++ W_Pd G b u) hx hb hml hown hts hK hN hA hP hD hS (t_Or_readNumber l G a b q_198 u q_211 hc_211) m_Or_readNumber k_672 ⟨Nat.le_of_ble_eq_true rfl, Nat.le_of_ble_eq_true rfl⟩ (pm_10 (W_Or G a q_198) (W_Pd G b u)) (pm_10 (W_Or G a q_211.2) (W_Pd G b u)).symm 2 0 rfl rfl rfl rfl rfl (Nat.le_of_ble_eq_true rfl) hl.1 d_Or_readOrder_211 ⟨Nat.zero_le _, Nat.zero_le _⟩ (fun H locs hP hD hS => ?_)
                                                  obtain ⟨g_214, hf⟩ := og_e hf
                                                  obtain ⟨r_214, er_214, hf⟩ := nx_e hf
                                                  refine va_iast hx hb hK hP hD hS 4 0 rfl rfl g_214 d_Or_readOrder_214 (fun H locs hP hD hS => ?_)
                                                  rw [← er_214] at hP hD
                                                  have hP : va_P G.1 vwCl (W_Or G a (q_211.2.1, q_211.2.2.1, q_211.2.2.2.1, r_214, q_211.2.2.2.2.2.1, q_211.2.2.2.2.2.2.1, q_211.2.2.2.2.2.2.2) ++ W_Pd G b u) H := hP
                                                  have hD : va_D A (W_Or G a (q_211.2.1, q_211.2.2.1, q_211.2.2.2.1, r_214, q_211.2.2.2.2.2.1, q_211.2.2.2.2.2.2.1, q_211.2.2.2.2.2.2.2) ++ W_Pd G b u) := hD
                                                  refine lv_goto (tgt := 263) hx hb d_Or_readOrder_215 (by decide) ?_
                                                  refine lv_aload_n hx hb d_Or_readOrder_263 rfl (lv_at hl 1 rfl) ?_
                                                  refine lv_dup hx hb d_Or_readOrder_264 rfl ?_
                                                  refine va_get (D := G.1) (ci := 2) (v := .int q_211.2.2.2.2.2.1) (C := R_Or) (T := T_Or) (N := 7) hx hb hts in_Or hown hK hP 0 rfl rfl 4 (by decide) (hts _ k_200) (fun _ h9 => h9) rfl d_Or_readOrder_265 ?_
                                                  refine lv_iconst (v := (1 : Int32)) hx hb d_Or_readOrder_268 (by decide) ?_
                                                  refine lv_iadd hx hb d_Or_readOrder_269 ?_
                                                  refine va_put (D := G.1) (ci := 2) (v := .int (q_211.2.2.2.2.2.1 + (1 : Int32))) (ty := .int) (C := R_Or) (T := T_Or) (N := 7) hx hb hts in_Or ty_Or ty_Or_ok nm_Or hown hK hP hD hS 0 rfl rfl 4 (by decide) (hts _ k_200) (fun _ h9 => h9) rfl (ty_Or_ok 4 (by decide)) rfl rfl (Nat.le_of_ble_eq_true rfl) d_Or_readOrder_270 (fun H locs hP hD hS => ?_)
                                                  have hP : va_P G.1 vwCl (W_Or G a (q_211.2.1, q_211.2.2.1, q_211.2.2.2.1, r_214, (q_211.2.2.2.2.2.1 + (1 : Int32)), q_211.2.2.2.2.2.2.1, q_211.2.2.2.2.2.2.2) ++ W_Pd G b u) H := hP
                                                  have hD : va_D A (W_Or G a (q_211.2.1, q_211.2.2.1, q_211.2.2.2.1, r_214, (q_211.2.2.2.2.2.1 + (1 : Int32)), q_211.2.2.2.2.2.2.1, q_211.2.2.2.2.2.2.2) ++ W_Pd G b u) := hD
                                                  cases hf
                                                  exact kV hx hb hr hlk hP hD hS d_Or_readOrder_273
                                                · replace hf := ob_ef e_49_119 hf
                                                  by_cases e_49_120 : q_5 = (120 : Int32)
                                                  · replace hf := ob_et e_49_120 hf
                                                    refine lv_tableIn (off := 107) (tgt := 156) hx hb d_Or_readOrder_49 (by rw [e_49_120]; decide) (by rw [e_49_120]; decide) (by rw [e_49_120]; decide) (by decide) ?_
                                                    refine lv_goto (tgt := 263) hx hb d_Or_readOrder_156 (by decide) ?_
                                                    refine lv_aload_n hx hb d_Or_readOrder_263 rfl (lv_at hl 1 rfl) ?_
                                                    refine lv_dup hx hb d_Or_readOrder_264 rfl ?_
                                                    refine va_get (D := G.1) (ci := 2) (v := .int v.2.2.2.2.1) (C := R_Or) (T := T_Or) (N := 7) hx hb hts in_Or hown hK hP 0 rfl rfl 4 (by decide) (hts _ k_200) (fun _ h9 => h9) rfl d_Or_readOrder_265 ?_
                                                    refine lv_iconst (v := (1 : Int32)) hx hb d_Or_readOrder_268 (by decide) ?_
                                                    refine lv_iadd hx hb d_Or_readOrder_269 ?_
                                                    refine va_put (D := G.1) (ci := 2) (v := .int (v.2.2.2.2.1 + (1 : Int32))) (ty := .int) (C := R_Or) (T := T_Or) (N := 7) hx hb hts in_Or ty_Or ty_Or_ok nm_Or hown hK hP hD hS 0 rfl rfl 4 (by decide) (hts _ k_200) (fun _ h9 => h9) rfl (ty_Or_ok 4 (by decide)) rfl rfl (Nat.le_of_ble_eq_true rfl) d_Or_readOrder_270 (fun H locs hP hD hS => ?_)
                                                    have hP : va_P G.1 vwCl (W_Or G a (r_37, v.2.1, v.2.2.1, v.2.2.2.1, (v.2.2.2.2.1 + (1 : Int32)), (v.2.2.2.2.2.1 + (1 : Int32)), v.2.2.2.2.2.2) ++ W_Pd G b u) H := hP
                                                    have hD : va_D A (W_Or G a (r_37, v.2.1, v.2.2.1, v.2.2.2.1, (v.2.2.2.2.1 + (1 : Int32)), (v.2.2.2.2.2.1 + (1 : Int32)), v.2.2.2.2.2.2) ++ W_Pd G b u) := hD
                                                    cases hf
                                                    exact kV hx hb hr hlk hP hD hS d_Or_readOrder_273
                                                  · replace hf := ob_ef e_49_120 hf
                                                    have z_49_98 := lv_neT e_49_98 (show (98 : Int32).toInt = 98 by decide)
                                                    have z_49_99 := lv_neT e_49_99 (show (99 : Int32).toInt = 99 by decide)
                                                    have z_49_100 := lv_neT e_49_100 (show (100 : Int32).toInt = 100 by decide)
                                                    have z_49_101 := lv_neT e_49_101 (show (101 : Int32).toInt = 101 by decide)
                                                    have z_49_102 := lv_neT e_49_102 (show (102 : Int32).toInt = 102 by decide)
                                                    have z_49_103 := lv_neT e_49_103 (show (103 : Int32).toInt = 103 by decide)
                                                    have z_49_104 := lv_neT e_49_104 (show (104 : Int32).toInt = 104 by decide)
                                                    have z_49_105 := lv_neT e_49_105 (show (105 : Int32).toInt = 105 by decide)
                                                    have z_49_106 := lv_neT e_49_106 (show (106 : Int32).toInt = 106 by decide)
                                                    have z_49_107 := lv_neT e_49_107 (show (107 : Int32).toInt = 107 by decide)
                                                    have z_49_108 := lv_neT e_49_108 (show (108 : Int32).toInt = 108 by decide)
                                                    have z_49_109 := lv_neT e_49_109 (show (109 : Int32).toInt = 109 by decide)
                                                    have z_49_110 := lv_neT e_49_110 (show (110 : Int32).toInt = 110 by decide)
                                                    have z_49_111 := lv_neT e_49_111 (show (111 : Int32).toInt = 111 by decide)
                                                    have z_49_112 := lv_neT e_49_112 (show (112 : Int32).toInt = 112 by decide)
                                                    have z_49_113 := lv_neT e_49_113 (show (113 : Int32).toInt = 113 by decide)
                                                    have z_49_114 := lv_neT e_49_114 (show (114 : Int32).toInt = 114 by decide)
                                                    have z_49_115 := lv_neT e_49_115 (show (115 : Int32).toInt = 115 by decide)
                                                    have z_49_116 := lv_neT e_49_116 (show (116 : Int32).toInt = 116 by decide)
                                                    have z_49_117 := lv_neT e_49_117 (show (117 : Int32).toInt = 117 by decide)
                                                    have z_49_118 := lv_neT e_49_118 (show (118 : Int32).toInt = 118 by decide)
                                                    have z_49_119 := lv_neT e_49_119 (show (119 : Int32).toInt = 119 by decide)
                                                    have z_49_120 := lv_neT e_49_120 (show (120 : Int32).toInt = 120 by decide)
                                                    refine lv_tableOut (tgt := 252) hx hb d_Or_readOrder_49 (by omega) (by decide) ?_
                                                    refine lv_aload_n hx hb d_Or_readOrder_252 rfl (lv_at hl 1 rfl) ?_
                                                    refine lv_aload_n hx hb d_Or_readOrder_253 rfl (lv_at hl 1 rfl) ?_
                                                    refine va_get (D := G.1) (ci := 2) (v := .int (v.2.2.2.2.2.1 + (1 : Int32))) (C := R_Or) (T := T_Or) (N := 7) hx hb hts in_Or hown hK hP 0 rfl rfl 5 (by decide) (hts _ k_201) (fun _ h9 => h9) rfl d_Or_readOrder_254 ?_
                                                    refine lv_iconst (v := (1 : Int32)) hx hb d_Or_readOrder_257 (by decide) ?_
                                                    refine lv_isub hx hb d_Or_readOrder_258 ?_
                                                    refine va_put (D := G.1) (ci := 2) (v := .int ((v.2.2.2.2.2.1 + (1 : Int32)) - (1 : Int32))) (ty := .int) (C := R_Or) (T := T_Or) (N := 7) hx hb hts in_Or ty_Or ty_Or_ok nm_Or hown hK hP hD hS 0 rfl rfl 6 (by decide) (hts _ k_202) (fun _ h9 => h9) rfl (ty_Or_ok 6 (by decide)) rfl rfl (Nat.le_of_ble_eq_true rfl) d_Or_readOrder_259 (fun H locs hP hD hS => ?_)
                                                    have hP : va_P G.1 vwCl (W_Or G a (r_37, v.2.1, v.2.2.1, v.2.2.2.1, v.2.2.2.2.1, (v.2.2.2.2.2.1 + (1 : Int32)), ((v.2.2.2.2.2.1 + (1 : Int32)) - (1 : Int32))) ++ W_Pd G b u) H := hP
                                                    have hD : va_D A (W_Or G a (r_37, v.2.1, v.2.2.1, v.2.2.2.1, v.2.2.2.2.1, (v.2.2.2.2.2.1 + (1 : Int32)), ((v.2.2.2.2.2.1 + (1 : Int32)) - (1 : Int32))) ++ W_Pd G b u) := hD
                                                    cases hf
                                                    exact kV hx hb hr hlk hP hD hS d_Or_readOrder_262
    · replace hf := ob_ef c_24 hf
      cases hf
      exact kV hx hb hr hlk hP hD hS d_Or_readOrder_27
set_option maxHeartbeats 4000000 in
set_option maxRecDepth 100000 in
theorem t_Or_read (l : Launch) (G : GG) (a : Nat → Nat) (b : Nat → Nat) (v : V_Or) (u : V_Pd) (q : V_Or) (hf : f_Or_read v u = some q) : MV l G y_Or_read c_Or_read 3 (rmk 3 66) (W_Or G a v ++ W_Pd G b u) [.ref (a 0), .ref (b 0)] (W_Or G a q ++ W_Pd G b u) := by
  refine ofV "FloodDiary$Orders" (by decide +kernel) rfl (Nat.le_of_ble_eq_true rfl) (fun p e s m args below meth c A ls hx hb hr hml hown hts hlk hK hN hA hP hD hS hl => ?_)
  have hl : lv_has ls 3 [(0, .ref (a 0)), (1, .ref (b 0))] := hl
  have J_23 : ∀ (n_23 : Nat) (l2 : Int32) (v : V_Or) (u : V_Pd) (H : Heap) (locs : List Loc) (ls : Array Slot), va_P G.1 vwCl (W_Or G a v ++ W_Pd G b u) H → va_D A (W_Or G a v ++ W_Pd G b u) → va_S A s.heap H locs → lv_has ls 3 [(0, .ref (a 0)), (1, .ref (b 0)), (2, .int l2)] → f_Or_read_23 n_23 l2 v u = some q → W p l e (rmk 3 66) s m args below meth c H locs 0 0 (MQ below (qV G A (W_Or G a q ++ W_Pd G b u)) args s 0 0 A) (F0 m 23 ls []) := by
    intro n_23
    induction n_23 with
    | zero => intro l2 v u H locs ls hP hD hS hl hf; exact absurd hf (by unfold f_Or_read_23; exact fun z => by cases z)
    | succ n_23 ih_23 =>
      intro l2 v u H locs ls hP hD hS hl hf
      rw [f_Or_read_23] at hf
      refine lv_iload_n hx hb d_Or_read_23 rfl (lv_at hl 2 rfl) ?_
      refine lv_bipush (v := (80 : Int32)) hx hb d_Or_read_24 (by decide) ?_
      refine lv_icmp_ge (tgt := 67) hx hb d_Or_read_26 (by decide) (fun c_26 => ?_) (fun c_26 => ?_)
      · replace hf := ob_et c_26 hf
        cases hf
        exact kV hx hb hr hlk hP hD hS d_Or_read_67
      · replace hf := ob_ef c_26 hf
        refine lv_aload_n hx hb d_Or_read_29 rfl (lv_at hl 0 rfl) ?_
        refine va_get (D := G.1) (ci := 2) (v := .int v.2.2.2.2.2.2) (C := R_Or) (T := T_Or) (N := 7) hx hb hts in_Or hown hK hP 0 rfl rfl 6 (by decide) (hts _ k_202) (fun _ h9 => h9) rfl d_Or_read_30 ?_
        refine lv_bipush (v := (-6 : Int32)) hx hb d_Or_read_33 (by decide) ?_
        refine lv_icmp_ne (tgt := 67) hx hb d_Or_read_35 (by decide) (fun c_35 => ?_) (fun c_35 => ?_)
        · replace hf := ob_ef c_35 hf
          cases hf
          exact kV hx hb hr hlk hP hD hS d_Or_read_67
        · replace hf := ob_et c_35 hf
          refine lv_aload_n hx hb d_Or_read_38 rfl (lv_at hl 0 rfl) ?_
          refine va_get (D := G.1) (ci := 2) (v := .int v.2.2.2.2.2.1) (C := R_Or) (T := T_Or) (N := 7) hx hb hts in_Or hown hK hP 0 rfl rfl 5 (by decide) (hts _ k_201) (fun _ h9 => h9) rfl d_Or_read_39 ?_
          refine lv_aload_n hx hb d_Or_read_42 rfl (lv_at hl 1 rfl) ?_
          obtain ⟨q_43, hc_43, hf⟩ := oc_e hf
          refine kcV (cc := c_Or_read) (own := "FloodDiary$Orders") (index := 38) (wc := W_Pd G b u) (wr := W_Or G a v ++ (([] : va_W))) (wc' := W_Pd G b u) (ws' := W_Or G a v ++ W_Pd G b u) hx hb hml hown hts hK hN hA hP hD hS (t_Pd_length l G b u q_43 hc_43) m_Pd_length k_688 ⟨Nat.le_of_ble_eq_true rfl, Nat.le_of_ble_eq_true rfl⟩ (pm_1 (W_Or G a v) (W_Pd G b u)) (pm_1 (W_Or G a v) (W_Pd G b u)).symm 3 0 rfl rfl rfl rfl rfl (Nat.le_of_ble_eq_true rfl) hl.1 d_Or_read_43 ⟨Nat.zero_le _, Nat.zero_le _⟩ (fun H locs hP hD hS => ?_)
          refine lv_icmp_ge (tgt := 67) hx hb d_Or_read_46 (by decide) (fun c_46 => ?_) (fun c_46 => ?_)
          · replace hf := ob_et c_46 hf
            cases hf
            exact kV hx hb hr hlk hP hD hS d_Or_read_67
          · replace hf := ob_ef c_46 hf
            refine lv_aload_n hx hb d_Or_read_49 rfl (lv_at hl 0 rfl) ?_
            refine lv_aload_n hx hb d_Or_read_50 rfl (lv_at hl 1 rfl) ?_
            refine lv_bipush (v := (59 : Int32)) hx hb d_Or_read_51 (by decide) ?_
            obtain ⟨q_53, hc_53, hf⟩ := oc_e hf
            refine kcVv (cc := c_Or_read) (own := "FloodDiary$Orders") (index := 44) (wc := W_Or G a v ++ W_Pd G b u) (wr := ([] : va_W)) (wc' := W_Or G a q_53 ++ W_Pd G b u) (ws' := W_Or G a q_53 ++ W_Pd G b u) hx hb hml hown hts hK hN hA hP hD hS (t_Or_expect l G a b (59 : Int32) v u q_53 hc_53) m_Or_expect k_679 ⟨Nat.le_of_ble_eq_true rfl, Nat.le_of_ble_eq_true rfl⟩ (pm_10 (W_Or G a v) (W_Pd G b u)) (pm_10 (W_Or G a q_53) (W_Pd G b u)).symm 2 0 rfl rfl rfl rfl rfl (Nat.le_of_ble_eq_true rfl) hl.1 d_Or_read_53 ⟨Nat.zero_le _, Nat.zero_le _⟩ (fun H locs hP hD hS => ?_)
            refine lv_aload_n hx hb d_Or_read_56 rfl (lv_at hl 0 rfl) ?_
            refine lv_aload_n hx hb d_Or_read_57 rfl (lv_at hl 1 rfl) ?_
            obtain ⟨q_58, hc_58, hf⟩ := oc_e hf
            refine kcVv (cc := c_Or_read) (own := "FloodDiary$Orders") (index := 34) (wc := W_Or G a q_53 ++ W_Pd G b u) (wr := ([] : va_W)) (wc' := W_Or G a q_58 ++ W_Pd G b u) (ws' := W_Or G a q_58 ++ W_Pd G b u) hx hb hml hown hts hK hN hA hP hD hS (t_Or_readOrder l G a b q_53 u q_58 hc_58) m_Or_readOrder k_664 ⟨Nat.le_of_ble_eq_true rfl, Nat.le_of_ble_eq_true rfl⟩ (pm_10 (W_Or G a q_53) (W_Pd G b u)) (pm_10 (W_Or G a q_58) (W_Pd G b u)).symm 2 0 rfl rfl rfl rfl rfl (Nat.le_of_ble_eq_true rfl) hl.1 d_Or_read_58 ⟨Nat.zero_le _, Nat.zero_le _⟩ (fun H locs hP hD hS => ?_)
            refine lv_iinc (v := (l2 + (1 : Int32))) (lv' := [(2, .int (l2 + (1 : Int32))), (0, .ref (a 0)), (1, .ref (b 0))]) hx hb d_Or_read_61 hl (k := 2) rfl rfl (by decide) rfl (fun ls hl => ?_)
            refine lv_goto (tgt := 23) hx hb d_Or_read_64 (by decide) ?_
            exact ih_23 (l2 + (1 : Int32)) q_58 u _ _ ls hP hD hS (lv_sub hl [1, 2, 0] rfl) hf
  unfold f_Or_read at hf
  refine lv_aload_n hx hb d_Or_read_0 rfl (lv_at hl 0 rfl) ?_
  refine lv_iconst (v := (0 : Int32)) hx hb d_Or_read_1 (by decide) ?_
  refine va_put (D := G.1) (ci := 2) (v := .int (0 : Int32)) (ty := .int) (C := R_Or) (T := T_Or) (N := 7) hx hb hts in_Or ty_Or ty_Or_ok nm_Or hown hK hP hD hS 0 rfl rfl 4 (by decide) (hts _ k_200) (fun _ h9 => h9) rfl (ty_Or_ok 4 (by decide)) rfl rfl (Nat.le_of_ble_eq_true rfl) d_Or_read_2 (fun H locs hP hD hS => ?_)
  have hP : va_P G.1 vwCl (W_Or G a (v.1, v.2.1, v.2.2.1, v.2.2.2.1, (0 : Int32), v.2.2.2.2.2.1, v.2.2.2.2.2.2) ++ W_Pd G b u) H := hP
  have hD : va_D A (W_Or G a (v.1, v.2.1, v.2.2.1, v.2.2.2.1, (0 : Int32), v.2.2.2.2.2.1, v.2.2.2.2.2.2) ++ W_Pd G b u) := hD
  refine lv_aload_n hx hb d_Or_read_5 rfl (lv_at hl 0 rfl) ?_
  refine lv_iconst (v := (0 : Int32)) hx hb d_Or_read_6 (by decide) ?_
  refine va_put (D := G.1) (ci := 2) (v := .int (0 : Int32)) (ty := .int) (C := R_Or) (T := T_Or) (N := 7) hx hb hts in_Or ty_Or ty_Or_ok nm_Or hown hK hP hD hS 0 rfl rfl 5 (by decide) (hts _ k_201) (fun _ h9 => h9) rfl (ty_Or_ok 5 (by decide)) rfl rfl (Nat.le_of_ble_eq_true rfl) d_Or_read_7 (fun H locs hP hD hS => ?_)
  have hP : va_P G.1 vwCl (W_Or G a (v.1, v.2.1, v.2.2.1, v.2.2.2.1, (0 : Int32), (0 : Int32), v.2.2.2.2.2.2) ++ W_Pd G b u) H := hP
  have hD : va_D A (W_Or G a (v.1, v.2.1, v.2.2.1, v.2.2.2.1, (0 : Int32), (0 : Int32), v.2.2.2.2.2.2) ++ W_Pd G b u) := hD
  refine lv_aload_n hx hb d_Or_read_10 rfl (lv_at hl 0 rfl) ?_
  refine lv_bipush (v := (-6 : Int32)) hx hb d_Or_read_11 (by decide) ?_
  refine va_put (D := G.1) (ci := 2) (v := .int (-6 : Int32)) (ty := .int) (C := R_Or) (T := T_Or) (N := 7) hx hb hts in_Or ty_Or ty_Or_ok nm_Or hown hK hP hD hS 0 rfl rfl 6 (by decide) (hts _ k_202) (fun _ h9 => h9) rfl (ty_Or_ok 6 (by decide)) rfl rfl (Nat.le_of_ble_eq_true rfl) d_Or_read_13 (fun H locs hP hD hS => ?_)
  have hP : va_P G.1 vwCl (W_Or G a (v.1, v.2.1, v.2.2.1, v.2.2.2.1, (0 : Int32), (0 : Int32), (-6 : Int32)) ++ W_Pd G b u) H := hP
  have hD : va_D A (W_Or G a (v.1, v.2.1, v.2.2.1, v.2.2.2.1, (0 : Int32), (0 : Int32), (-6 : Int32)) ++ W_Pd G b u) := hD
  refine lv_aload_n hx hb d_Or_read_16 rfl (lv_at hl 0 rfl) ?_
  refine lv_aload_n hx hb d_Or_read_17 rfl (lv_at hl 1 rfl) ?_
  obtain ⟨q_18, hc_18, hf⟩ := oc_e hf
  refine kcVv (cc := c_Or_read) (own := "FloodDiary$Orders") (index := 34) (wc := W_Or G a (v.1, v.2.1, v.2.2.1, v.2.2.2.1, (0 : Int32), (0 : Int32), (-6 : Int32)) ++ W_Pd G b u) (wr := ([] : va_W)) (wc' := W_Or G a q_18 ++ W_Pd G b u) (ws' := W_Or G a q_18 ++ W_Pd G b u) hx hb hml hown hts hK hN hA hP hD hS (t_Or_readOrder l G a b (v.1, v.2.1, v.2.2.1, v.2.2.2.1, (0 : Int32), (0 : Int32), (-6 : Int32)) u q_18 hc_18) m_Or_readOrder k_664 ⟨Nat.le_of_ble_eq_true rfl, Nat.le_of_ble_eq_true rfl⟩ (pm_10 (W_Or G a (v.1, v.2.1, v.2.2.1, v.2.2.2.1, (0 : Int32), (0 : Int32), (-6 : Int32))) (W_Pd G b u)) (pm_10 (W_Or G a q_18) (W_Pd G b u)).symm 2 0 rfl rfl rfl rfl rfl (Nat.le_of_ble_eq_true rfl) hl.1 d_Or_read_18 ⟨Nat.zero_le _, Nat.zero_le _⟩ (fun H locs hP hD hS => ?_)
  refine lv_iconst (v := (0 : Int32)) hx hb d_Or_read_21 (by decide) ?_
  refine lv_istore_n (lv' := [(2, .int (0 : Int32)), (0, .ref (a 0)), (1, .ref (b 0))]) hx hb d_Or_read_22 rfl hl (by decide) rfl (fun ls hl => ?_)
  exact J_23 FU (0 : Int32) q_18 u _ _ ls hP hD hS (lv_sub hl [1, 2, 0] rfl) hf
set_option maxHeartbeats 4000000 in
set_option maxRecDepth 100000 in
theorem t_Or_obey (l : Launch) (G : GG) (a : Nat → Nat) (b : Nat → Nat) (l1 : Int32) (v : V_Or) (u : V_St) (q : Int32 × V_St) (hf : f_Or_obey l1 v u = some q) : MI l G y_Or_obey c_Or_obey 3 (some .int) (rmk 5 119) (W_Or G a v ++ W_St G b u) [.ref (a 0), .int l1, .ref (b 0)] (W_Or G a v ++ W_St G b q.2) (q.1) := by
  refine ofI "FloodDiary$Orders" (by decide +kernel) rfl (Nat.le_of_ble_eq_true rfl) (fun p e s m args below meth c A ls hx hb hr hml hown hts hlk hK hN hA hP hD hS hl => ?_)
  have hl : lv_has ls 3 [(0, .ref (a 0)), (1, .int l1), (2, .ref (b 0))] := hl
  unfold f_Or_obey at hf
  refine lv_iload_n hx hb d_Or_obey_0 rfl (lv_at hl 1 rfl) ?_
  refine lv_if_lt (tgt := 10) hx hb d_Or_obey_1 (by decide) (fun c_1 => ?_) (fun c_1 => ?_)
  · replace hf := ob_et c_1 hf
    refine lv_bipush (v := (-6 : Int32)) hx hb d_Or_obey_10 (by decide) ?_
    cases hf
    exact kI hx hb hr hlk hP hD hS d_Or_obey_12
  · replace hf := ob_ef c_1 hf
    refine lv_iload_n hx hb d_Or_obey_4 rfl (lv_at hl 1 rfl) ?_
    refine lv_bipush (v := (80 : Int32)) hx hb d_Or_obey_5 (by decide) ?_
    refine lv_icmp_lt (tgt := 13) hx hb d_Or_obey_7 (by decide) (fun c_7 => ?_) (fun c_7 => ?_)
    · replace hf := ob_et c_7 hf
      refine lv_aload_n hx hb d_Or_obey_13 rfl (lv_at hl 0 rfl) ?_
      refine va_get (D := G.1) (ci := 2) (v := .ref (a 1)) (C := R_Or) (T := T_Or) (N := 7) hx hb hts in_Or hown hK hP 0 rfl rfl 0 (by decide) (hts _ k_196) (fun _ h9 => h9) rfl d_Or_obey_14 ?_
      refine lv_iload_n hx hb d_Or_obey_17 rfl (lv_at hl 1 rfl) ?_
      obtain ⟨g_18, hf⟩ := og_e hf
      refine va_iald hx hb hK hP 1 0 rfl rfl g_18 d_Or_obey_18 ?_
      by_cases e_19_98 : (v.1 l1.toNatClampNeg) = (98 : Int32)
      · replace hf := ob_et e_19_98 hf
        refine lv_tableIn (off := 105) (tgt := 124) hx hb d_Or_obey_19 (by rw [e_19_98]; decide) (by rw [e_19_98]; decide) (by rw [e_19_98]; decide) (by decide) ?_
        refine lv_aload_n hx hb d_Or_obey_124 rfl (lv_at hl 2 rfl) ?_
        obtain ⟨q_125, hc_125, hf⟩ := oc_e hf
        refine kcV (cc := c_Or_obey) (own := "FloodDiary$Orders") (index := 48) (wc := W_St G b u) (wr := W_Or G a v ++ (([] : va_W))) (wc' := W_St G b q_125.2) (ws' := W_Or G a v ++ W_St G b q_125.2) hx hb hml hown hts hK hN hA hP hD hS (t_St_beginWork l G b u q_125 hc_125) m_St_beginWork k_705 ⟨Nat.le_of_ble_eq_true rfl, Nat.le_of_ble_eq_true rfl⟩ (pm_1 (W_Or G a v) (W_St G b u)) (pm_1 (W_Or G a v) (W_St G b q_125.2)).symm 6 0 rfl rfl rfl rfl rfl (Nat.le_of_ble_eq_true rfl) hl.1 d_Or_obey_125 ⟨Nat.zero_le _, Nat.zero_le _⟩ (fun H locs hP hD hS => ?_)
        cases hf
        exact kI hx hb hr hlk hP hD hS d_Or_obey_128
      · replace hf := ob_ef e_19_98 hf
        by_cases e_19_99 : (v.1 l1.toNatClampNeg) = (99 : Int32)
        · replace hf := ob_et e_19_99 hf
          refine lv_tableIn (off := 193) (tgt := 212) hx hb d_Or_obey_19 (by rw [e_19_99]; decide) (by rw [e_19_99]; decide) (by rw [e_19_99]; decide) (by decide) ?_
          refine lv_bipush (v := (-6 : Int32)) hx hb d_Or_obey_212 (by decide) ?_
          cases hf
          exact kI hx hb hr hlk hP hD hS d_Or_obey_214
        · replace hf := ob_ef e_19_99 hf
          by_cases e_19_100 : (v.1 l1.toNatClampNeg) = (100 : Int32)
          · replace hf := ob_et e_19_100 hf
            refine lv_tableIn (off := 193) (tgt := 212) hx hb d_Or_obey_19 (by rw [e_19_100]; decide) (by rw [e_19_100]; decide) (by rw [e_19_100]; decide) (by decide) ?_
            refine lv_bipush (v := (-6 : Int32)) hx hb d_Or_obey_212 (by decide) ?_
            cases hf
            exact kI hx hb hr hlk hP hD hS d_Or_obey_214
          · replace hf := ob_ef e_19_100 hf
            by_cases e_19_101 : (v.1 l1.toNatClampNeg) = (101 : Int32)
            · replace hf := ob_et e_19_101 hf
              refine lv_tableIn (off := 193) (tgt := 212) hx hb d_Or_obey_19 (by rw [e_19_101]; decide) (by rw [e_19_101]; decide) (by rw [e_19_101]; decide) (by decide) ?_
              refine lv_bipush (v := (-6 : Int32)) hx hb d_Or_obey_212 (by decide) ?_
              cases hf
              exact kI hx hb hr hlk hP hD hS d_Or_obey_214
            · replace hf := ob_ef e_19_101 hf
              by_cases e_19_102 : (v.1 l1.toNatClampNeg) = (102 : Int32)
              · replace hf := ob_et e_19_102 hf
                refine lv_tableIn (off := 133) (tgt := 152) hx hb d_Or_obey_19 (by rw [e_19_102]; decide) (by rw [e_19_102]; decide) (by rw [e_19_102]; decide) (by decide) ?_
                refine lv_aload_n hx hb d_Or_obey_152 rfl (lv_at hl 2 rfl) ?_
                refine lv_aload_n hx hb d_Or_obey_153 rfl (lv_at hl 0 rfl) ?_
                refine va_get (D := G.1) (ci := 2) (v := .ref (a 2)) (C := R_Or) (T := T_Or) (N := 7) hx hb hts in_Or hown hK hP 0 rfl rfl 1 (by decide) (hts _ k_197) (fun _ h9 => h9) rfl d_Or_obey_154 ?_
                refine lv_iload_n hx hb d_Or_obey_157 rfl (lv_at hl 1 rfl) ?_
                obtain ⟨g_158, hf⟩ := og_e hf
                refine va_iald hx hb hK hP 2 0 rfl rfl g_158 d_Or_obey_158 ?_
                obtain ⟨q_159, hc_159, hf⟩ := oc_e hf
                refine kcV (cc := c_Or_obey) (own := "FloodDiary$Orders") (index := 57) (wc := W_St G b u) (wr := W_Or G a v ++ (([] : va_W))) (wc' := W_St G b q_159.2) (ws' := W_Or G a v ++ W_St G b q_159.2) hx hb hml hown hts hK hN hA hP hD hS (t_St_finishWork l G b (v.2.1 l1.toNatClampNeg) u q_159 hc_159) m_St_finishWork k_707 ⟨Nat.le_of_ble_eq_true rfl, Nat.le_of_ble_eq_true rfl⟩ (pm_1 (W_Or G a v) (W_St G b u)) (pm_1 (W_Or G a v) (W_St G b q_159.2)).symm 6 0 rfl rfl rfl rfl rfl (Nat.le_of_ble_eq_true rfl) hl.1 d_Or_obey_159 ⟨Nat.zero_le _, Nat.zero_le _⟩ (fun H locs hP hD hS => ?_)
                cases hf
                exact kI hx hb hr hlk hP hD hS d_Or_obey_162
              · replace hf := ob_ef e_19_102 hf
                by_cases e_19_103 : (v.1 l1.toNatClampNeg) = (103 : Int32)
                · replace hf := ob_et e_19_103 hf
                  refine lv_tableIn (off := 193) (tgt := 212) hx hb d_Or_obey_19 (by rw [e_19_103]; decide) (by rw [e_19_103]; decide) (by rw [e_19_103]; decide) (by decide) ?_
                  refine lv_bipush (v := (-6 : Int32)) hx hb d_Or_obey_212 (by decide) ?_
                  cases hf
                  exact kI hx hb hr hlk hP hD hS d_Or_obey_214
                · replace hf := ob_ef e_19_103 hf
                  by_cases e_19_104 : (v.1 l1.toNatClampNeg) = (104 : Int32)
                  · replace hf := ob_et e_19_104 hf
                    refine lv_tableIn (off := 193) (tgt := 212) hx hb d_Or_obey_19 (by rw [e_19_104]; decide) (by rw [e_19_104]; decide) (by rw [e_19_104]; decide) (by decide) ?_
                    refine lv_bipush (v := (-6 : Int32)) hx hb d_Or_obey_212 (by decide) ?_
                    cases hf
                    exact kI hx hb hr hlk hP hD hS d_Or_obey_214
                  · replace hf := ob_ef e_19_104 hf
                    by_cases e_19_105 : (v.1 l1.toNatClampNeg) = (105 : Int32)
                    · replace hf := ob_et e_19_105 hf
                      refine lv_tableIn (off := 193) (tgt := 212) hx hb d_Or_obey_19 (by rw [e_19_105]; decide) (by rw [e_19_105]; decide) (by rw [e_19_105]; decide) (by decide) ?_
                      refine lv_bipush (v := (-6 : Int32)) hx hb d_Or_obey_212 (by decide) ?_
                      cases hf
                      exact kI hx hb hr hlk hP hD hS d_Or_obey_214
                    · replace hf := ob_ef e_19_105 hf
                      by_cases e_19_106 : (v.1 l1.toNatClampNeg) = (106 : Int32)
                      · replace hf := ob_et e_19_106 hf
                        refine lv_tableIn (off := 193) (tgt := 212) hx hb d_Or_obey_19 (by rw [e_19_106]; decide) (by rw [e_19_106]; decide) (by rw [e_19_106]; decide) (by decide) ?_
                        refine lv_bipush (v := (-6 : Int32)) hx hb d_Or_obey_212 (by decide) ?_
                        cases hf
                        exact kI hx hb hr hlk hP hD hS d_Or_obey_214
                      · replace hf := ob_ef e_19_106 hf
                        by_cases e_19_107 : (v.1 l1.toNatClampNeg) = (107 : Int32)
                        · replace hf := ob_et e_19_107 hf
                          refine lv_tableIn (off := 193) (tgt := 212) hx hb d_Or_obey_19 (by rw [e_19_107]; decide) (by rw [e_19_107]; decide) (by rw [e_19_107]; decide) (by decide) ?_
                          refine lv_bipush (v := (-6 : Int32)) hx hb d_Or_obey_212 (by decide) ?_
                          cases hf
                          exact kI hx hb hr hlk hP hD hS d_Or_obey_214
                        · replace hf := ob_ef e_19_107 hf
                          by_cases e_19_108 : (v.1 l1.toNatClampNeg) = (108 : Int32)
                          · replace hf := ob_et e_19_108 hf
                            refine lv_tableIn (off := 193) (tgt := 212) hx hb d_Or_obey_19 (by rw [e_19_108]; decide) (by rw [e_19_108]; decide) (by rw [e_19_108]; decide) (by decide) ?_
                            refine lv_bipush (v := (-6 : Int32)) hx hb d_Or_obey_212 (by decide) ?_
                            cases hf
                            exact kI hx hb hr hlk hP hD hS d_Or_obey_214
                          · replace hf := ob_ef e_19_108 hf
                            by_cases e_19_109 : (v.1 l1.toNatClampNeg) = (109 : Int32)
                            · replace hf := ob_et e_19_109 hf
                              refine lv_tableIn (off := 182) (tgt := 201) hx hb d_Or_obey_19 (by rw [e_19_109]; decide) (by rw [e_19_109]; decide) (by rw [e_19_109]; decide) (by decide) ?_
                              refine lv_aload_n hx hb d_Or_obey_201 rfl (lv_at hl 2 rfl) ?_
                              refine lv_aload_n hx hb d_Or_obey_202 rfl (lv_at hl 0 rfl) ?_
                              refine va_get (D := G.1) (ci := 2) (v := .ref (a 2)) (C := R_Or) (T := T_Or) (N := 7) hx hb hts in_Or hown hK hP 0 rfl rfl 1 (by decide) (hts _ k_197) (fun _ h9 => h9) rfl d_Or_obey_203 ?_
                              refine lv_iload_n hx hb d_Or_obey_206 rfl (lv_at hl 1 rfl) ?_
                              obtain ⟨g_207, hf⟩ := og_e hf
                              refine va_iald hx hb hK hP 2 0 rfl rfl g_207 d_Or_obey_207 ?_
                              obtain ⟨q_208, hc_208, hf⟩ := oc_e hf
                              refine kcV (cc := c_Or_obey) (own := "FloodDiary$Orders") (index := 73) (wc := W_St G b u) (wr := W_Or G a v ++ (([] : va_W))) (wc' := W_St G b q_208.2) (ws' := W_Or G a v ++ W_St G b q_208.2) hx hb hml hown hts hK hN hA hP hD hS (t_St_mendSteps l G b (v.2.1 l1.toNatClampNeg) u q_208 hc_208) m_St_mendSteps k_712 ⟨Nat.le_of_ble_eq_true rfl, Nat.le_of_ble_eq_true rfl⟩ (pm_1 (W_Or G a v) (W_St G b u)) (pm_1 (W_Or G a v) (W_St G b q_208.2)).symm 6 0 rfl rfl rfl rfl rfl (Nat.le_of_ble_eq_true rfl) hl.1 d_Or_obey_208 ⟨Nat.zero_le _, Nat.zero_le _⟩ (fun H locs hP hD hS => ?_)
                              cases hf
                              exact kI hx hb hr hlk hP hD hS d_Or_obey_211
                            · replace hf := ob_ef e_19_109 hf
                              by_cases e_19_110 : (v.1 l1.toNatClampNeg) = (110 : Int32)
                              · replace hf := ob_et e_19_110 hf
                                refine lv_tableIn (off := 193) (tgt := 212) hx hb d_Or_obey_19 (by rw [e_19_110]; decide) (by rw [e_19_110]; decide) (by rw [e_19_110]; decide) (by decide) ?_
                                refine lv_bipush (v := (-6 : Int32)) hx hb d_Or_obey_212 (by decide) ?_
                                cases hf
                                exact kI hx hb hr hlk hP hD hS d_Or_obey_214
                              · replace hf := ob_ef e_19_110 hf
                                by_cases e_19_111 : (v.1 l1.toNatClampNeg) = (111 : Int32)
                                · replace hf := ob_et e_19_111 hf
                                  refine lv_tableIn (off := 193) (tgt := 212) hx hb d_Or_obey_19 (by rw [e_19_111]; decide) (by rw [e_19_111]; decide) (by rw [e_19_111]; decide) (by decide) ?_
                                  refine lv_bipush (v := (-6 : Int32)) hx hb d_Or_obey_212 (by decide) ?_
                                  cases hf
                                  exact kI hx hb hr hlk hP hD hS d_Or_obey_214
                                · replace hf := ob_ef e_19_111 hf
                                  by_cases e_19_112 : (v.1 l1.toNatClampNeg) = (112 : Int32)
                                  · replace hf := ob_et e_19_112 hf
                                    refine lv_tableIn (off := 155) (tgt := 174) hx hb d_Or_obey_19 (by rw [e_19_112]; decide) (by rw [e_19_112]; decide) (by rw [e_19_112]; decide) (by decide) ?_
                                    refine lv_aload_n hx hb d_Or_obey_174 rfl (lv_at hl 2 rfl) ?_
                                    refine lv_aload_n hx hb d_Or_obey_175 rfl (lv_at hl 0 rfl) ?_
                                    refine va_get (D := G.1) (ci := 2) (v := .ref (a 3)) (C := R_Or) (T := T_Or) (N := 7) hx hb hts in_Or hown hK hP 0 rfl rfl 2 (by decide) (hts _ k_198) (fun _ h9 => h9) rfl d_Or_obey_176 ?_
                                    refine lv_iload_n hx hb d_Or_obey_179 rfl (lv_at hl 1 rfl) ?_
                                    obtain ⟨g_180, hf⟩ := og_e hf
                                    refine va_iald hx hb hK hP 3 0 rfl rfl g_180 d_Or_obey_180 ?_
                                    obtain ⟨q_181, hc_181, hf⟩ := oc_e hf
                                    refine kcV (cc := c_Or_obey) (own := "FloodDiary$Orders") (index := 64) (wc := W_St G b u) (wr := W_Or G a v ++ (([] : va_W))) (wc' := W_St G b q_181.2) (ws' := W_Or G a v ++ W_St G b q_181.2) hx hb hml hown hts hK hN hA hP hD hS (t_St_shelvePage l G b (v.2.2.1 l1.toNatClampNeg) u q_181 hc_181) m_St_shelvePage k_709 ⟨Nat.le_of_ble_eq_true rfl, Nat.le_of_ble_eq_true rfl⟩ (pm_1 (W_Or G a v) (W_St G b u)) (pm_1 (W_Or G a v) (W_St G b q_181.2)).symm 6 0 rfl rfl rfl rfl rfl (Nat.le_of_ble_eq_true rfl) hl.1 d_Or_obey_181 ⟨Nat.zero_le _, Nat.zero_le _⟩ (fun H locs hP hD hS => ?_)
                                    cases hf
                                    exact kI hx hb hr hlk hP hD hS d_Or_obey_184
                                  · replace hf := ob_ef e_19_112 hf
                                    by_cases e_19_113 : (v.1 l1.toNatClampNeg) = (113 : Int32)
                                    · replace hf := ob_et e_19_113 hf
                                      refine lv_tableIn (off := 193) (tgt := 212) hx hb d_Or_obey_19 (by rw [e_19_113]; decide) (by rw [e_19_113]; decide) (by rw [e_19_113]; decide) (by decide) ?_
                                      refine lv_bipush (v := (-6 : Int32)) hx hb d_Or_obey_212 (by decide) ?_
                                      cases hf
                                      exact kI hx hb hr hlk hP hD hS d_Or_obey_214
                                    · replace hf := ob_ef e_19_113 hf
                                      by_cases e_19_114 : (v.1 l1.toNatClampNeg) = (114 : Int32)
                                      · replace hf := ob_et e_19_114 hf
                                        refine lv_tableIn (off := 193) (tgt := 212) hx hb d_Or_obey_19 (by rw [e_19_114]; decide) (by rw [e_19_114]; decide) (by rw [e_19_114]; decide) (by decide) ?_
                                        refine lv_bipush (v := (-6 : Int32)) hx hb d_Or_obey_212 (by decide) ?_
                                        cases hf
                                        exact kI hx hb hr hlk hP hD hS d_Or_obey_214
                                      · replace hf := ob_ef e_19_114 hf
                                        by_cases e_19_115 : (v.1 l1.toNatClampNeg) = (115 : Int32)
                                        · replace hf := ob_et e_19_115 hf
                                          refine lv_tableIn (off := 166) (tgt := 185) hx hb d_Or_obey_19 (by rw [e_19_115]; decide) (by rw [e_19_115]; decide) (by rw [e_19_115]; decide) (by decide) ?_
                                          refine lv_aload_n hx hb d_Or_obey_185 rfl (lv_at hl 2 rfl) ?_
                                          refine lv_aload_n hx hb d_Or_obey_186 rfl (lv_at hl 0 rfl) ?_
                                          refine va_get (D := G.1) (ci := 2) (v := .ref (a 2)) (C := R_Or) (T := T_Or) (N := 7) hx hb hts in_Or hown hK hP 0 rfl rfl 1 (by decide) (hts _ k_197) (fun _ h9 => h9) rfl d_Or_obey_187 ?_
                                          refine lv_iload_n hx hb d_Or_obey_190 rfl (lv_at hl 1 rfl) ?_
                                          obtain ⟨g_191, hf⟩ := og_e hf
                                          refine va_iald hx hb hK hP 2 0 rfl rfl g_191 d_Or_obey_191 ?_
                                          obtain ⟨q_192, hc_192, hf⟩ := oc_e hf
                                          refine kcV (cc := c_Or_obey) (own := "FloodDiary$Orders") (index := 67) (wc := W_St G b u) (wr := W_Or G a v ++ (([] : va_W))) (wc' := W_St G b q_192.2) (ws' := W_Or G a v ++ W_St G b q_192.2) hx hb hml hown hts hK hN hA hP hD hS (t_St_saveEntries l G b (v.2.1 l1.toNatClampNeg) u q_192 hc_192) m_St_saveEntries k_710 ⟨Nat.le_of_ble_eq_true rfl, Nat.le_of_ble_eq_true rfl⟩ (pm_1 (W_Or G a v) (W_St G b u)) (pm_1 (W_Or G a v) (W_St G b q_192.2)).symm 6 0 rfl rfl rfl rfl rfl (Nat.le_of_ble_eq_true rfl) hl.1 d_Or_obey_192 ⟨Nat.zero_le _, Nat.zero_le _⟩ (fun H locs hP hD hS => ?_)
                                          cases hf
                                          exact kI hx hb hr hlk hP hD hS d_Or_obey_195
                                        · replace hf := ob_ef e_19_115 hf
                                          by_cases e_19_116 : (v.1 l1.toNatClampNeg) = (116 : Int32)
                                          · replace hf := ob_et e_19_116 hf
                                            refine lv_tableIn (off := 144) (tgt := 163) hx hb d_Or_obey_19 (by rw [e_19_116]; decide) (by rw [e_19_116]; decide) (by rw [e_19_116]; decide) (by decide) ?_
                                            refine lv_aload_n hx hb d_Or_obey_163 rfl (lv_at hl 2 rfl) ?_
                                            refine lv_aload_n hx hb d_Or_obey_164 rfl (lv_at hl 0 rfl) ?_
                                            refine va_get (D := G.1) (ci := 2) (v := .ref (a 2)) (C := R_Or) (T := T_Or) (N := 7) hx hb hts in_Or hown hK hP 0 rfl rfl 1 (by decide) (hts _ k_197) (fun _ h9 => h9) rfl d_Or_obey_165 ?_
                                            refine lv_iload_n hx hb d_Or_obey_168 rfl (lv_at hl 1 rfl) ?_
                                            obtain ⟨g_169, hf⟩ := og_e hf
                                            refine va_iald hx hb hK hP 2 0 rfl rfl g_169 d_Or_obey_169 ?_
                                            obtain ⟨q_170, hc_170, hf⟩ := oc_e hf
                                            refine kcV (cc := c_Or_obey) (own := "FloodDiary$Orders") (index := 61) (wc := W_St G b u) (wr := W_Or G a v ++ (([] : va_W))) (wc' := W_St G b q_170.2) (ws' := W_Or G a v ++ W_St G b q_170.2) hx hb hml hown hts hK hN hA hP hD hS (t_St_tearWork l G b (v.2.1 l1.toNatClampNeg) u q_170 hc_170) m_St_tearWork k_708 ⟨Nat.le_of_ble_eq_true rfl, Nat.le_of_ble_eq_true rfl⟩ (pm_1 (W_Or G a v) (W_St G b u)) (pm_1 (W_Or G a v) (W_St G b q_170.2)).symm 6 0 rfl rfl rfl rfl rfl (Nat.le_of_ble_eq_true rfl) hl.1 d_Or_obey_170 ⟨Nat.zero_le _, Nat.zero_le _⟩ (fun H locs hP hD hS => ?_)
                                            cases hf
                                            exact kI hx hb hr hlk hP hD hS d_Or_obey_173
                                          · replace hf := ob_ef e_19_116 hf
                                            by_cases e_19_117 : (v.1 l1.toNatClampNeg) = (117 : Int32)
                                            · replace hf := ob_et e_19_117 hf
                                              refine lv_tableIn (off := 193) (tgt := 212) hx hb d_Or_obey_19 (by rw [e_19_117]; decide) (by rw [e_19_117]; decide) (by rw [e_19_117]; decide) (by decide) ?_
                                              refine lv_bipush (v := (-6 : Int32)) hx hb d_Or_obey_212 (by decide) ?_
                                              cases hf
                                              exact kI hx hb hr hlk hP hD hS d_Or_obey_214
                                            · replace hf := ob_ef e_19_117 hf
                                              by_cases e_19_118 : (v.1 l1.toNatClampNeg) = (118 : Int32)
                                              · replace hf := ob_et e_19_118 hf
                                                refine lv_tableIn (off := 193) (tgt := 212) hx hb d_Or_obey_19 (by rw [e_19_118]; decide) (by rw [e_19_118]; decide) (by rw [e_19_118]; decide) (by decide) ?_
                                                refine lv_bipush (v := (-6 : Int32)) hx hb d_Or_obey_212 (by decide) ?_
                                                cases hf
                                                exact kI hx hb hr hlk hP hD hS d_Or_obey_214
                                              · replace hf := ob_ef e_19_118 hf
                                                by_cases e_19_119 : (v.1 l1.toNatClampNeg) = (119 : Int32)
                                                · replace hf := ob_et e_19_119 hf
                                                  refine lv_tableIn (off := 110) (tgt := 129) hx hb d_Or_obey_19 (by rw [e_19_119]; decide) (by rw [e_19_119]; decide) (by rw [e_19_119]; decide) (by decide) ?_
                                                  refine lv_aload_n hx hb d_Or_obey_129 rfl (lv_at hl 2 rfl) ?_
                                                  refine lv_aload_n hx hb d_Or_obey_130 rfl (lv_at hl 0 rfl) ?_
                                                  refine va_get (D := G.1) (ci := 2) (v := .ref (a 2)) (C := R_Or) (T := T_Or) (N := 7) hx hb hts in_Or hown hK hP 0 rfl rfl 1 (by decide) (hts _ k_197) (fun _ h9 => h9) rfl d_Or_obey_131 ?_
                                                  refine lv_iload_n hx hb d_Or_obey_134 rfl (lv_at hl 1 rfl) ?_
                                                  obtain ⟨g_135, hf⟩ := og_e hf
                                                  refine va_iald hx hb hK hP 2 0 rfl rfl g_135 d_Or_obey_135 ?_
                                                  refine lv_aload_n hx hb d_Or_obey_136 rfl (lv_at hl 0 rfl) ?_
                                                  refine va_get (D := G.1) (ci := 2) (v := .ref (a 3)) (C := R_Or) (T := T_Or) (N := 7) hx hb hts in_Or hown hK hP 0 rfl rfl 2 (by decide) (hts _ k_198) (fun _ h9 => h9) rfl d_Or_obey_137 ?_
                                                  refine lv_iload_n hx hb d_Or_obey_140 rfl (lv_at hl 1 rfl) ?_
                                                  obtain ⟨g_141, hf⟩ := og_e hf
                                                  refine va_iald hx hb hK hP 3 0 rfl rfl g_141 d_Or_obey_141 ?_
                                                  refine lv_aload_n hx hb d_Or_obey_142 rfl (lv_at hl 0 rfl) ?_
                                                  refine va_get (D := G.1) (ci := 2) (v := .ref (a 4)) (C := R_Or) (T := T_Or) (N := 7) hx hb hts in_Or hown hK hP 0 rfl rfl 3 (by decide) (hts _ k_199) (fun _ h9 => h9) rfl d_Or_obey_143 ?_
                                                  refine lv_iload_n hx hb d_Or_obey_146 rfl (lv_at hl 1 rfl) ?_
                                                  obtain ⟨g_147, hf⟩ := og_e hf
                                                  refine va_iald hx hb hK hP 4 0 rfl rfl g_147 d_Or_obey_147 ?_
                                                  obtain ⟨q_148, hc_148, hf⟩ := oc_e hf
                                                  refine kcV (cc := c_Or_obey) (own := "FloodDiary$Orders") (index := 53) (wc := W_St G b u) (wr := W_Or G a v ++ (([] : va_W))) (wc' := W_St G b q_148.2) (ws' := W_Or G a v ++ W_St G b q_148.2) hx hb hml hown hts hK hN hA hP hD hS (t_St_writePage l G b (v.2.1 l1.toNatClampNeg) (v.2.2.1 l1.toNatClampNeg) (v.2.2.2.1 l1.toNatClampNeg) u q_148 hc_148) m_St_writePage k_706 ⟨Nat.le_of_ble_eq_true rfl, Nat.le_of_ble_eq_true rfl⟩ (pm_1 (W_Or G a v) (W_St G b u)) (pm_1 (W_Or G a v) (W_St G b q_148.2)).symm 6 0 rfl rfl rfl rfl rfl (Nat.le_of_ble_eq_true rfl) hl.1 d_Or_obey_148 ⟨Nat.zero_le _, Nat.zero_le _⟩ (fun H locs hP hD hS => ?_)
                                                  cases hf
                                                  exact kI hx hb hr hlk hP hD hS d_Or_obey_151
                                                · replace hf := ob_ef e_19_119 hf
                                                  by_cases e_19_120 : (v.1 l1.toNatClampNeg) = (120 : Int32)
                                                  · replace hf := ob_et e_19_120 hf
                                                    refine lv_tableIn (off := 177) (tgt := 196) hx hb d_Or_obey_19 (by rw [e_19_120]; decide) (by rw [e_19_120]; decide) (by rw [e_19_120]; decide) (by decide) ?_
                                                    refine lv_aload_n hx hb d_Or_obey_196 rfl (lv_at hl 2 rfl) ?_
                                                    obtain ⟨q_197, hc_197, hf⟩ := oc_e hf
                                                    refine kcV (cc := c_Or_obey) (own := "FloodDiary$Orders") (index := 70) (wc := W_St G b u) (wr := W_Or G a v ++ (([] : va_W))) (wc' := W_St G b q_197.2) (ws' := W_Or G a v ++ W_St G b q_197.2) hx hb hml hown hts hK hN hA hP hD hS (t_St_takeFlood l G b u q_197 hc_197) m_St_takeFlood k_711 ⟨Nat.le_of_ble_eq_true rfl, Nat.le_of_ble_eq_true rfl⟩ (pm_1 (W_Or G a v) (W_St G b u)) (pm_1 (W_Or G a v) (W_St G b q_197.2)).symm 6 0 rfl rfl rfl rfl rfl (Nat.le_of_ble_eq_true rfl) hl.1 d_Or_obey_197 ⟨Nat.zero_le _, Nat.zero_le _⟩ (fun H locs hP hD hS => ?_)
                                                    cases hf
                                                    exact kI hx hb hr hlk hP hD hS d_Or_obey_200
                                                  · replace hf := ob_ef e_19_120 hf
                                                    have z_19_98 := lv_neT e_19_98 (show (98 : Int32).toInt = 98 by decide)
                                                    have z_19_99 := lv_neT e_19_99 (show (99 : Int32).toInt = 99 by decide)
                                                    have z_19_100 := lv_neT e_19_100 (show (100 : Int32).toInt = 100 by decide)
                                                    have z_19_101 := lv_neT e_19_101 (show (101 : Int32).toInt = 101 by decide)
                                                    have z_19_102 := lv_neT e_19_102 (show (102 : Int32).toInt = 102 by decide)
                                                    have z_19_103 := lv_neT e_19_103 (show (103 : Int32).toInt = 103 by decide)
                                                    have z_19_104 := lv_neT e_19_104 (show (104 : Int32).toInt = 104 by decide)
                                                    have z_19_105 := lv_neT e_19_105 (show (105 : Int32).toInt = 105 by decide)
                                                    have z_19_106 := lv_neT e_19_106 (show (106 : Int32).toInt = 106 by decide)
                                                    have z_19_107 := lv_neT e_19_107 (show (107 : Int32).toInt = 107 by decide)
                                                    have z_19_108 := lv_neT e_19_108 (show (108 : Int32).toInt = 108 by decide)
                                                    have z_19_109 := lv_neT e_19_109 (show (109 : Int32).toInt = 109 by decide)
                                                    have z_19_110 := lv_neT e_19_110 (show (110 : Int32).toInt = 110 by decide)
                                                    have z_19_111 := lv_neT e_19_111 (show (111 : Int32).toInt = 111 by decide)
                                                    have z_19_112 := lv_neT e_19_112 (show (112 : Int32).toInt = 112 by decide)
                                                    have z_19_113 := lv_neT e_19_113 (show (113 : Int32).toInt = 113 by decide)
                                                    have z_19_114 := lv_neT e_19_114 (show (114 : Int32).toInt = 114 by decide)
                                                    have z_19_115 := lv_neT e_19_115 (show (115 : Int32).toInt = 115 by decide)
                                                    have z_19_116 := lv_neT e_19_116 (show (116 : Int32).toInt = 116 by decide)
                                                    have z_19_117 := lv_neT e_19_117 (show (117 : Int32).toInt = 117 by decide)
                                                    have z_19_118 := lv_neT e_19_118 (show (118 : Int32).toInt = 118 by decide)
                                                    have z_19_119 := lv_neT e_19_119 (show (119 : Int32).toInt = 119 by decide)
                                                    have z_19_120 := lv_neT e_19_120 (show (120 : Int32).toInt = 120 by decide)
                                                    refine lv_tableOut (tgt := 212) hx hb d_Or_obey_19 (by omega) (by decide) ?_
                                                    refine lv_bipush (v := (-6 : Int32)) hx hb d_Or_obey_212 (by decide) ?_
                                                    cases hf
                                                    exact kI hx hb hr hlk hP hD hS d_Or_obey_214
    · replace hf := ob_ef c_7 hf
      refine lv_bipush (v := (-6 : Int32)) hx hb d_Or_obey_10 (by decide) ?_
      cases hf
      exact kI hx hb hr hlk hP hD hS d_Or_obey_12
