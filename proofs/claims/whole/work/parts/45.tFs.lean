theorem pm_44 (x0 x1 x2 x3 x4 x5 x6 : va_W) : List.Perm (x0 ++ (x1 ++ (x2 ++ (x3 ++ (x4 ++ (x5 ++ (x6 ++ (([] : va_W))))))))) ((x6) ++ (x0 ++ (x1 ++ (x2 ++ (x3 ++ (x4 ++ (x5 ++ (([] : va_W))))))))) := prm (fun d z => by first | (simp only [List.count_append, List.count_nil]; omega) | simp only [List.count_append, List.count_nil])
theorem pm_45 (x0 x1 x2 x3 x4 x5 x6 : va_W) : List.Perm (x0 ++ (x1 ++ (x2 ++ (x3 ++ (x4 ++ (x5 ++ (x6 ++ (([] : va_W))))))))) ((x6 ++ x1) ++ (x0 ++ (x2 ++ (x3 ++ (x4 ++ (x5 ++ (([] : va_W)))))))) := prm (fun d z => by first | (simp only [List.count_append, List.count_nil]; omega) | simp only [List.count_append, List.count_nil])
set_option maxHeartbeats 4000000 in
set_option maxRecDepth 100000 in
theorem t_Fd_bring_S0 (l : Launch) (G : GG) (a : Nat → Nat) (b : Nat → Nat) (l1 : Int32) (v : V_Fd) (w : V_S0) (q : Int32 × V_Fd) (hf : f_Fd_bring_S0 l1 v w = some q) : MI l G y_Fd_bring c_Fd_bring 2 (some .int) (rmk 4 83) (W_Fd G a (b 0) (W_S0 G b w) v) [.ref (a 0), .int l1] (W_Fd G a (b 0) (W_S0 G b w) q.2) (q.1) := by
  refine ofI "FloodDiary" (by decide +kernel) rfl (Nat.le_of_ble_eq_true rfl) (fun p e s m args below meth c A ls hx hb hr hml hown hts hlk hK hN hA hP hD hS hl => ?_)
  have hl : lv_has ls 2 [(0, .ref (a 0)), (1, .int l1)] := hl
  unfold f_Fd_bring_S0 at hf
  refine lv_iload_n hx hb d_Fd_bring_0 rfl (lv_at hl 1 rfl) ?_
  obtain ⟨q_1, hc_1, hf⟩ := oc_e hf
  refine kcS (cc := c_Fd_bring) (own := "FloodDiary") (index := 173) (wc := ([] : va_W)) (wr := W_Fd G a (b 0) (W_S0 G b w) v) (wc' := ([] : va_W)) (ws' := W_Fd G a (b 0) (W_S0 G b w) v) hx hb hml hown hts hK hN hA hP hD hS (t_Fd_isSlot l G l1 q_1 hc_1) m_Fd_isSlot k_725 ⟨Nat.le_of_ble_eq_true rfl, Nat.le_of_ble_eq_true rfl⟩ (List.Perm.refl _) (List.Perm.refl _) rfl rfl (Nat.le_of_ble_eq_true rfl) hl.1 d_Fd_bring_1 ⟨Nat.zero_le _, Nat.zero_le _⟩ (fun H locs hP hD hS => ?_)
  refine lv_if_ne (tgt := 10) hx hb d_Fd_bring_4 (by decide) (fun c_4 => ?_) (fun c_4 => ?_)
  · replace hf := ob_ef c_4 hf
    refine lv_aload_n hx hb d_Fd_bring_10 rfl (lv_at hl 0 rfl) ?_
    refine va_get (D := G.1) (ci := 8) (v := .ref (b 0)) (C := R_Fd) (T := T_Fd) (N := 6) hx hb hts in_Fd hown hK hP 0 rfl rfl 3 (by decide) (hts _ k_221) (fun _ h9 => h9) rfl d_Fd_bring_11 ?_
    refine lv_iload_n hx hb d_Fd_bring_14 rfl (lv_at hl 1 rfl) ?_
    obtain ⟨q_15, hc_15, hf⟩ := oc_e hf
    refine kcV (cc := c_Fd_bring) (own := "FloodDiary") (index := 184) (wc := W_S0 G b w) (wr := O_Fd G a (b 0) ++ (W_St G (sh a 1) v.1 ++ (W_St G (sh a 21) v.2.1 ++ (W_Pd G (sh a 41) v.2.2.1 ++ (W_Or G (sh a 43) v.2.2.2.1 ++ (W_Hi G (sh a 48) v.2.2.2.2 ++ (([] : va_W)))))))) (wc' := W_S0 G b w) (ws' := W_Fd G a (b 0) (W_S0 G b w) v) hx hb hml hown hts hK hN hA hP hD hS (t_S0_isFilled l G b l1 w q_15 hc_15) m_Sl_isFilled k_739 ⟨Nat.le_of_ble_eq_true rfl, Nat.le_of_ble_eq_true rfl⟩ (pm_44 (O_Fd G a (b 0)) (W_St G (sh a 1) v.1) (W_St G (sh a 21) v.2.1) (W_Pd G (sh a 41) v.2.2.1) (W_Or G (sh a 43) v.2.2.2.1) (W_Hi G (sh a 48) v.2.2.2.2) (W_S0 G b w)) (pm_44 (O_Fd G a (b 0)) (W_St G (sh a 1) v.1) (W_St G (sh a 21) v.2.1) (W_Pd G (sh a 41) v.2.2.1) (W_Or G (sh a 43) v.2.2.2.1) (W_Hi G (sh a 48) v.2.2.2.2) (W_S0 G b w)).symm 5 0 rfl rfl rfl rfl rfl (Nat.le_of_ble_eq_true rfl) hl.1 d_Fd_bring_15 ⟨Nat.zero_le _, Nat.zero_le _⟩ (fun H locs hP hD hS => ?_)
    refine lv_if_ne (tgt := 24) hx hb d_Fd_bring_18 (by decide) (fun c_18 => ?_) (fun c_18 => ?_)
    · replace hf := ob_ef c_18 hf
      refine lv_aload_n hx hb d_Fd_bring_24 rfl (lv_at hl 0 rfl) ?_
      refine va_get (D := G.1) (ci := 8) (v := .ref (a 48)) (C := R_Fd) (T := T_Fd) (N := 6) hx hb hts in_Fd hown hK hP 0 rfl rfl 2 (by decide) (hts _ k_220) (fun _ h9 => h9) rfl d_Fd_bring_25 ?_
      refine lv_aload_n hx hb d_Fd_bring_28 rfl (lv_at hl 0 rfl) ?_
      refine va_get (D := G.1) (ci := 8) (v := .ref (a 1)) (C := R_Fd) (T := T_Fd) (N := 6) hx hb hts in_Fd hown hK hP 0 rfl rfl 0 (by decide) (hts _ k_218) (fun _ h9 => h9) rfl d_Fd_bring_29 ?_
      obtain ⟨q_32, hc_32, hf⟩ := oc_e hf
      refine kcVv (cc := c_Fd_bring) (own := "FloodDiary") (index := 47) (wc := W_Hi G (sh a 48) v.2.2.2.2 ++ W_St G (sh a 1) v.1) (wr := O_Fd G a (b 0) ++ (W_St G (sh a 21) v.2.1 ++ (W_Pd G (sh a 41) v.2.2.1 ++ (W_Or G (sh a 43) v.2.2.2.1 ++ (W_S0 G b w ++ (([] : va_W))))))) (wc' := W_Hi G (sh a 48) q_32 ++ W_St G (sh a 1) v.1) (ws' := W_Fd G a (b 0) (W_S0 G b w) (v.1, v.2.1, v.2.2.1, v.2.2.2.1, q_32)) hx hb hml hown hts hK hN hA hP hD hS (t_Hi_prepare l G (sh a 48) (sh a 1) v.2.2.2.2 v.1 q_32 hc_32) m_Hi_prepare k_241 ⟨Nat.le_of_ble_eq_true rfl, Nat.le_of_ble_eq_true rfl⟩ (pm_33 (O_Fd G a (b 0)) (W_St G (sh a 1) v.1) (W_St G (sh a 21) v.2.1) (W_Pd G (sh a 41) v.2.2.1) (W_Or G (sh a 43) v.2.2.2.1) (W_Hi G (sh a 48) v.2.2.2.2) (W_S0 G b w)) (pm_33 (O_Fd G a (b 0)) (W_St G (sh a 1) v.1) (W_St G (sh a 21) v.2.1) (W_Pd G (sh a 41) v.2.2.1) (W_Or G (sh a 43) v.2.2.2.1) (W_Hi G (sh a 48) q_32) (W_S0 G b w)).symm 1 0 rfl rfl rfl rfl rfl (Nat.le_of_ble_eq_true rfl) hl.1 d_Fd_bring_32 ⟨Nat.zero_le _, Nat.zero_le _⟩ (fun H locs hP hD hS => ?_)
      refine lv_aload_n hx hb d_Fd_bring_35 rfl (lv_at hl 0 rfl) ?_
      refine va_get (D := G.1) (ci := 8) (v := .ref (b 0)) (C := R_Fd) (T := T_Fd) (N := 6) hx hb hts in_Fd hown hK hP 0 rfl rfl 3 (by decide) (hts _ k_221) (fun _ h9 => h9) rfl d_Fd_bring_36 ?_
      refine lv_iload_n hx hb d_Fd_bring_39 rfl (lv_at hl 1 rfl) ?_
      refine lv_aload_n hx hb d_Fd_bring_40 rfl (lv_at hl 0 rfl) ?_
      refine va_get (D := G.1) (ci := 8) (v := .ref (a 1)) (C := R_Fd) (T := T_Fd) (N := 6) hx hb hts in_Fd hown hK hP 0 rfl rfl 0 (by decide) (hts _ k_218) (fun _ h9 => h9) rfl d_Fd_bring_41 ?_
      obtain ⟨q_44, hc_44, hf⟩ := oc_e hf
      refine kcVv (cc := c_Fd_bring) (own := "FloodDiary") (index := 187) (wc := W_S0 G b w ++ W_St G (sh a 1) v.1) (wr := O_Fd G a (b 0) ++ (W_St G (sh a 21) v.2.1 ++ (W_Pd G (sh a 41) v.2.2.1 ++ (W_Or G (sh a 43) v.2.2.2.1 ++ (W_Hi G (sh a 48) q_32 ++ (([] : va_W))))))) (wc' := W_S0 G b w ++ W_St G (sh a 1) q_44) (ws' := W_Fd G a (b 0) (W_S0 G b w) (q_44, v.2.1, v.2.2.1, v.2.2.2.1, q_32)) hx hb hml hown hts hK hN hA hP hD hS (t_S0_fetch l G b (sh a 1) l1 w v.1 q_44 hc_44) m_Sl_fetch k_743 ⟨Nat.le_of_ble_eq_true rfl, Nat.le_of_ble_eq_true rfl⟩ (pm_45 (O_Fd G a (b 0)) (W_St G (sh a 1) v.1) (W_St G (sh a 21) v.2.1) (W_Pd G (sh a 41) v.2.2.1) (W_Or G (sh a 43) v.2.2.2.1) (W_Hi G (sh a 48) q_32) (W_S0 G b w)) (pm_45 (O_Fd G a (b 0)) (W_St G (sh a 1) q_44) (W_St G (sh a 21) v.2.1) (W_Pd G (sh a 41) v.2.2.1) (W_Or G (sh a 43) v.2.2.2.1) (W_Hi G (sh a 48) q_32) (W_S0 G b w)).symm 5 0 rfl rfl rfl rfl rfl (Nat.le_of_ble_eq_true rfl) hl.1 d_Fd_bring_44 ⟨Nat.zero_le _, Nat.zero_le _⟩ (fun H locs hP hD hS => ?_)
      refine lv_aload_n hx hb d_Fd_bring_47 rfl (lv_at hl 0 rfl) ?_
      refine va_get (D := G.1) (ci := 8) (v := .ref (a 48)) (C := R_Fd) (T := T_Fd) (N := 6) hx hb hts in_Fd hown hK hP 0 rfl rfl 2 (by decide) (hts _ k_220) (fun _ h9 => h9) rfl d_Fd_bring_48 ?_
      refine lv_aload_n hx hb d_Fd_bring_51 rfl (lv_at hl 0 rfl) ?_
      refine va_get (D := G.1) (ci := 8) (v := .ref (a 1)) (C := R_Fd) (T := T_Fd) (N := 6) hx hb hts in_Fd hown hK hP 0 rfl rfl 0 (by decide) (hts _ k_218) (fun _ h9 => h9) rfl d_Fd_bring_52 ?_
      refine va_getN (D := G.1) (ci := 6) (v := .ref (a 7)) (C := R_St) (T := T_St) (N := 9) (host := "FloodDiary") hx hb hts in_St hown hK hP 1 rfl rfl 1 (by decide) (va_Nw.use rfl (hN.1 _ nsF_6)) (fun _ h9 => h9) rfl d_Fd_bring_55 ?_
      refine va_getN (D := G.1) (ci := 0) (v := .int q_44.2.1.2.2.2.2.2.2.2.1) (C := R_Dy) (T := T_Dy) (N := 9) (host := "FloodDiary") hx hb hts in_Dy hown hK hP 7 rfl rfl 7 (by decide) (va_Nw.use rfl (hN.1 _ nsF_2)) (fun _ h9 => h9) rfl d_Fd_bring_58 ?_
      obtain ⟨q_61, hc_61, hf⟩ := oc_e hf
      refine kcV (cc := c_Fd_bring) (own := "FloodDiary") (index := 55) (wc := W_Hi G (sh a 48) q_32) (wr := O_Fd G a (b 0) ++ (W_St G (sh a 1) q_44 ++ (W_St G (sh a 21) v.2.1 ++ (W_Pd G (sh a 41) v.2.2.1 ++ (W_Or G (sh a 43) v.2.2.2.1 ++ (W_S0 G b w ++ (([] : va_W)))))))) (wc' := W_Hi G (sh a 48) q_61.2) (ws' := W_Fd G a (b 0) (W_S0 G b w) (q_44, v.2.1, v.2.2.1, v.2.2.2.1, q_61.2)) hx hb hml hown hts hK hN hA hP hD hS (t_Hi_record l G (sh a 48) q_44.2.1.2.2.2.2.2.2.2.1 q_32 q_61 hc_61) m_Hi_record k_298 ⟨Nat.le_of_ble_eq_true rfl, Nat.le_of_ble_eq_true rfl⟩ (pm_34 (O_Fd G a (b 0)) (W_St G (sh a 1) q_44) (W_St G (sh a 21) v.2.1) (W_Pd G (sh a 41) v.2.2.1) (W_Or G (sh a 43) v.2.2.2.1) (W_Hi G (sh a 48) q_32) (W_S0 G b w)) (pm_34 (O_Fd G a (b 0)) (W_St G (sh a 1) q_44) (W_St G (sh a 21) v.2.1) (W_Pd G (sh a 41) v.2.2.1) (W_Or G (sh a 43) v.2.2.2.1) (W_Hi G (sh a 48) q_61.2) (W_S0 G b w)).symm 1 0 rfl rfl rfl rfl rfl (Nat.le_of_ble_eq_true rfl) hl.1 d_Fd_bring_61 ⟨Nat.zero_le _, Nat.zero_le _⟩ (fun H locs hP hD hS => ?_)
      cases hf
      exact kI hx hb hr hlk hP hD hS d_Fd_bring_64
    · replace hf := ob_et c_18 hf
      refine lv_bipush (v := (-5 : Int32)) hx hb d_Fd_bring_21 (by decide) ?_
      cases hf
      exact kI hx hb hr hlk hP hD hS d_Fd_bring_23
  · replace hf := ob_et c_4 hf
    refine lv_bipush (v := (-2 : Int32)) hx hb d_Fd_bring_7 (by decide) ?_
    cases hf
    exact kI hx hb hr hlk hP hD hS d_Fd_bring_9
set_option maxHeartbeats 4000000 in
set_option maxRecDepth 100000 in
theorem t_Fd_bring_S1 (l : Launch) (G : GG) (a : Nat → Nat) (b : Nat → Nat) (l1 : Int32) (v : V_Fd) (w : V_S1) (q : Int32 × V_Fd) (hf : f_Fd_bring_S1 l1 v w = some q) : MI l G y_Fd_bring c_Fd_bring 2 (some .int) (rmk 4 84) (W_Fd G a (b 0) (W_S1 G b w) v) [.ref (a 0), .int l1] (W_Fd G a (b 0) (W_S1 G b w) q.2) (q.1) := by
  refine ofI "FloodDiary" (by decide +kernel) rfl (Nat.le_of_ble_eq_true rfl) (fun p e s m args below meth c A ls hx hb hr hml hown hts hlk hK hN hA hP hD hS hl => ?_)
  have hl : lv_has ls 2 [(0, .ref (a 0)), (1, .int l1)] := hl
  unfold f_Fd_bring_S1 at hf
  refine lv_iload_n hx hb d_Fd_bring_0 rfl (lv_at hl 1 rfl) ?_
  obtain ⟨q_1, hc_1, hf⟩ := oc_e hf
  refine kcS (cc := c_Fd_bring) (own := "FloodDiary") (index := 173) (wc := ([] : va_W)) (wr := W_Fd G a (b 0) (W_S1 G b w) v) (wc' := ([] : va_W)) (ws' := W_Fd G a (b 0) (W_S1 G b w) v) hx hb hml hown hts hK hN hA hP hD hS (t_Fd_isSlot l G l1 q_1 hc_1) m_Fd_isSlot k_725 ⟨Nat.le_of_ble_eq_true rfl, Nat.le_of_ble_eq_true rfl⟩ (List.Perm.refl _) (List.Perm.refl _) rfl rfl (Nat.le_of_ble_eq_true rfl) hl.1 d_Fd_bring_1 ⟨Nat.zero_le _, Nat.zero_le _⟩ (fun H locs hP hD hS => ?_)
  refine lv_if_ne (tgt := 10) hx hb d_Fd_bring_4 (by decide) (fun c_4 => ?_) (fun c_4 => ?_)
  · replace hf := ob_ef c_4 hf
    refine lv_aload_n hx hb d_Fd_bring_10 rfl (lv_at hl 0 rfl) ?_
    refine va_get (D := G.1) (ci := 8) (v := .ref (b 0)) (C := R_Fd) (T := T_Fd) (N := 6) hx hb hts in_Fd hown hK hP 0 rfl rfl 3 (by decide) (hts _ k_221) (fun _ h9 => h9) rfl d_Fd_bring_11 ?_
    refine lv_iload_n hx hb d_Fd_bring_14 rfl (lv_at hl 1 rfl) ?_
    obtain ⟨q_15, hc_15, hf⟩ := oc_e hf
    refine kcV (cc := c_Fd_bring) (own := "FloodDiary") (index := 184) (wc := W_S1 G b w) (wr := O_Fd G a (b 0) ++ (W_St G (sh a 1) v.1 ++ (W_St G (sh a 21) v.2.1 ++ (W_Pd G (sh a 41) v.2.2.1 ++ (W_Or G (sh a 43) v.2.2.2.1 ++ (W_Hi G (sh a 48) v.2.2.2.2 ++ (([] : va_W)))))))) (wc' := W_S1 G b w) (ws' := W_Fd G a (b 0) (W_S1 G b w) v) hx hb hml hown hts hK hN hA hP hD hS (t_S1_isFilled l G b l1 w q_15 hc_15) m_Sl_isFilled k_739 ⟨Nat.le_of_ble_eq_true rfl, Nat.le_of_ble_eq_true rfl⟩ (pm_44 (O_Fd G a (b 0)) (W_St G (sh a 1) v.1) (W_St G (sh a 21) v.2.1) (W_Pd G (sh a 41) v.2.2.1) (W_Or G (sh a 43) v.2.2.2.1) (W_Hi G (sh a 48) v.2.2.2.2) (W_S1 G b w)) (pm_44 (O_Fd G a (b 0)) (W_St G (sh a 1) v.1) (W_St G (sh a 21) v.2.1) (W_Pd G (sh a 41) v.2.2.1) (W_Or G (sh a 43) v.2.2.2.1) (W_Hi G (sh a 48) v.2.2.2.2) (W_S1 G b w)).symm 5 0 rfl rfl rfl rfl rfl (Nat.le_of_ble_eq_true rfl) hl.1 d_Fd_bring_15 ⟨Nat.zero_le _, Nat.zero_le _⟩ (fun H locs hP hD hS => ?_)
    refine lv_if_ne (tgt := 24) hx hb d_Fd_bring_18 (by decide) (fun c_18 => ?_) (fun c_18 => ?_)
    · replace hf := ob_ef c_18 hf
      refine lv_aload_n hx hb d_Fd_bring_24 rfl (lv_at hl 0 rfl) ?_
      refine va_get (D := G.1) (ci := 8) (v := .ref (a 48)) (C := R_Fd) (T := T_Fd) (N := 6) hx hb hts in_Fd hown hK hP 0 rfl rfl 2 (by decide) (hts _ k_220) (fun _ h9 => h9) rfl d_Fd_bring_25 ?_
      refine lv_aload_n hx hb d_Fd_bring_28 rfl (lv_at hl 0 rfl) ?_
      refine va_get (D := G.1) (ci := 8) (v := .ref (a 1)) (C := R_Fd) (T := T_Fd) (N := 6) hx hb hts in_Fd hown hK hP 0 rfl rfl 0 (by decide) (hts _ k_218) (fun _ h9 => h9) rfl d_Fd_bring_29 ?_
      obtain ⟨q_32, hc_32, hf⟩ := oc_e hf
      refine kcVv (cc := c_Fd_bring) (own := "FloodDiary") (index := 47) (wc := W_Hi G (sh a 48) v.2.2.2.2 ++ W_St G (sh a 1) v.1) (wr := O_Fd G a (b 0) ++ (W_St G (sh a 21) v.2.1 ++ (W_Pd G (sh a 41) v.2.2.1 ++ (W_Or G (sh a 43) v.2.2.2.1 ++ (W_S1 G b w ++ (([] : va_W))))))) (wc' := W_Hi G (sh a 48) q_32 ++ W_St G (sh a 1) v.1) (ws' := W_Fd G a (b 0) (W_S1 G b w) (v.1, v.2.1, v.2.2.1, v.2.2.2.1, q_32)) hx hb hml hown hts hK hN hA hP hD hS (t_Hi_prepare l G (sh a 48) (sh a 1) v.2.2.2.2 v.1 q_32 hc_32) m_Hi_prepare k_241 ⟨Nat.le_of_ble_eq_true rfl, Nat.le_of_ble_eq_true rfl⟩ (pm_33 (O_Fd G a (b 0)) (W_St G (sh a 1) v.1) (W_St G (sh a 21) v.2.1) (W_Pd G (sh a 41) v.2.2.1) (W_Or G (sh a 43) v.2.2.2.1) (W_Hi G (sh a 48) v.2.2.2.2) (W_S1 G b w)) (pm_33 (O_Fd G a (b 0)) (W_St G (sh a 1) v.1) (W_St G (sh a 21) v.2.1) (W_Pd G (sh a 41) v.2.2.1) (W_Or G (sh a 43) v.2.2.2.1) (W_Hi G (sh a 48) q_32) (W_S1 G b w)).symm 1 0 rfl rfl rfl rfl rfl (Nat.le_of_ble_eq_true rfl) hl.1 d_Fd_bring_32 ⟨Nat.zero_le _, Nat.zero_le _⟩ (fun H locs hP hD hS => ?_)
      refine lv_aload_n hx hb d_Fd_bring_35 rfl (lv_at hl 0 rfl) ?_
      refine va_get (D := G.1) (ci := 8) (v := .ref (b 0)) (C := R_Fd) (T := T_Fd) (N := 6) hx hb hts in_Fd hown hK hP 0 rfl rfl 3 (by decide) (hts _ k_221) (fun _ h9 => h9) rfl d_Fd_bring_36 ?_
      refine lv_iload_n hx hb d_Fd_bring_39 rfl (lv_at hl 1 rfl) ?_
      refine lv_aload_n hx hb d_Fd_bring_40 rfl (lv_at hl 0 rfl) ?_
      refine va_get (D := G.1) (ci := 8) (v := .ref (a 1)) (C := R_Fd) (T := T_Fd) (N := 6) hx hb hts in_Fd hown hK hP 0 rfl rfl 0 (by decide) (hts _ k_218) (fun _ h9 => h9) rfl d_Fd_bring_41 ?_
      obtain ⟨q_44, hc_44, hf⟩ := oc_e hf
      refine kcVv (cc := c_Fd_bring) (own := "FloodDiary") (index := 187) (wc := W_S1 G b w ++ W_St G (sh a 1) v.1) (wr := O_Fd G a (b 0) ++ (W_St G (sh a 21) v.2.1 ++ (W_Pd G (sh a 41) v.2.2.1 ++ (W_Or G (sh a 43) v.2.2.2.1 ++ (W_Hi G (sh a 48) q_32 ++ (([] : va_W))))))) (wc' := W_S1 G b w ++ W_St G (sh a 1) q_44) (ws' := W_Fd G a (b 0) (W_S1 G b w) (q_44, v.2.1, v.2.2.1, v.2.2.2.1, q_32)) hx hb hml hown hts hK hN hA hP hD hS (t_S1_fetch l G b (sh a 1) l1 w v.1 q_44 hc_44) m_Sl_fetch k_743 ⟨Nat.le_of_ble_eq_true rfl, Nat.le_of_ble_eq_true rfl⟩ (pm_45 (O_Fd G a (b 0)) (W_St G (sh a 1) v.1) (W_St G (sh a 21) v.2.1) (W_Pd G (sh a 41) v.2.2.1) (W_Or G (sh a 43) v.2.2.2.1) (W_Hi G (sh a 48) q_32) (W_S1 G b w)) (pm_45 (O_Fd G a (b 0)) (W_St G (sh a 1) q_44) (W_St G (sh a 21) v.2.1) (W_Pd G (sh a 41) v.2.2.1) (W_Or G (sh a 43) v.2.2.2.1) (W_Hi G (sh a 48) q_32) (W_S1 G b w)).symm 5 0 rfl rfl rfl rfl rfl (Nat.le_of_ble_eq_true rfl) hl.1 d_Fd_bring_44 ⟨Nat.zero_le _, Nat.zero_le _⟩ (fun H locs hP hD hS => ?_)
      refine lv_aload_n hx hb d_Fd_bring_47 rfl (lv_at hl 0 rfl) ?_
      refine va_get (D := G.1) (ci := 8) (v := .ref (a 48)) (C := R_Fd) (T := T_Fd) (N := 6) hx hb hts in_Fd hown hK hP 0 rfl rfl 2 (by decide) (hts _ k_220) (fun _ h9 => h9) rfl d_Fd_bring_48 ?_
      refine lv_aload_n hx hb d_Fd_bring_51 rfl (lv_at hl 0 rfl) ?_
      refine va_get (D := G.1) (ci := 8) (v := .ref (a 1)) (C := R_Fd) (T := T_Fd) (N := 6) hx hb hts in_Fd hown hK hP 0 rfl rfl 0 (by decide) (hts _ k_218) (fun _ h9 => h9) rfl d_Fd_bring_52 ?_
      refine va_getN (D := G.1) (ci := 6) (v := .ref (a 7)) (C := R_St) (T := T_St) (N := 9) (host := "FloodDiary") hx hb hts in_St hown hK hP 1 rfl rfl 1 (by decide) (va_Nw.use rfl (hN.1 _ nsF_6)) (fun _ h9 => h9) rfl d_Fd_bring_55 ?_
      refine va_getN (D := G.1) (ci := 0) (v := .int q_44.2.1.2.2.2.2.2.2.2.1) (C := R_Dy) (T := T_Dy) (N := 9) (host := "FloodDiary") hx hb hts in_Dy hown hK hP 7 rfl rfl 7 (by decide) (va_Nw.use rfl (hN.1 _ nsF_2)) (fun _ h9 => h9) rfl d_Fd_bring_58 ?_
      obtain ⟨q_61, hc_61, hf⟩ := oc_e hf
      refine kcV (cc := c_Fd_bring) (own := "FloodDiary") (index := 55) (wc := W_Hi G (sh a 48) q_32) (wr := O_Fd G a (b 0) ++ (W_St G (sh a 1) q_44 ++ (W_St G (sh a 21) v.2.1 ++ (W_Pd G (sh a 41) v.2.2.1 ++ (W_Or G (sh a 43) v.2.2.2.1 ++ (W_S1 G b w ++ (([] : va_W)))))))) (wc' := W_Hi G (sh a 48) q_61.2) (ws' := W_Fd G a (b 0) (W_S1 G b w) (q_44, v.2.1, v.2.2.1, v.2.2.2.1, q_61.2)) hx hb hml hown hts hK hN hA hP hD hS (t_Hi_record l G (sh a 48) q_44.2.1.2.2.2.2.2.2.2.1 q_32 q_61 hc_61) m_Hi_record k_298 ⟨Nat.le_of_ble_eq_true rfl, Nat.le_of_ble_eq_true rfl⟩ (pm_34 (O_Fd G a (b 0)) (W_St G (sh a 1) q_44) (W_St G (sh a 21) v.2.1) (W_Pd G (sh a 41) v.2.2.1) (W_Or G (sh a 43) v.2.2.2.1) (W_Hi G (sh a 48) q_32) (W_S1 G b w)) (pm_34 (O_Fd G a (b 0)) (W_St G (sh a 1) q_44) (W_St G (sh a 21) v.2.1) (W_Pd G (sh a 41) v.2.2.1) (W_Or G (sh a 43) v.2.2.2.1) (W_Hi G (sh a 48) q_61.2) (W_S1 G b w)).symm 1 0 rfl rfl rfl rfl rfl (Nat.le_of_ble_eq_true rfl) hl.1 d_Fd_bring_61 ⟨Nat.zero_le _, Nat.zero_le _⟩ (fun H locs hP hD hS => ?_)
      cases hf
      exact kI hx hb hr hlk hP hD hS d_Fd_bring_64
    · replace hf := ob_et c_18 hf
      refine lv_bipush (v := (-5 : Int32)) hx hb d_Fd_bring_21 (by decide) ?_
      cases hf
      exact kI hx hb hr hlk hP hD hS d_Fd_bring_23
  · replace hf := ob_et c_4 hf
    refine lv_bipush (v := (-2 : Int32)) hx hb d_Fd_bring_7 (by decide) ?_
    cases hf
    exact kI hx hb hr hlk hP hD hS d_Fd_bring_9
set_option maxHeartbeats 4000000 in
set_option maxRecDepth 100000 in
theorem t_Fd_bring_S2 (l : Launch) (G : GG) (a : Nat → Nat) (b : Nat → Nat) (l1 : Int32) (v : V_Fd) (w : V_S2) (q : Int32 × V_Fd) (hf : f_Fd_bring_S2 l1 v w = some q) : MI l G y_Fd_bring c_Fd_bring 2 (some .int) (rmk 4 84) (W_Fd G a (b 0) (W_S2 G b w) v) [.ref (a 0), .int l1] (W_Fd G a (b 0) (W_S2 G b w) q.2) (q.1) := by
  refine ofI "FloodDiary" (by decide +kernel) rfl (Nat.le_of_ble_eq_true rfl) (fun p e s m args below meth c A ls hx hb hr hml hown hts hlk hK hN hA hP hD hS hl => ?_)
  have hl : lv_has ls 2 [(0, .ref (a 0)), (1, .int l1)] := hl
  unfold f_Fd_bring_S2 at hf
  refine lv_iload_n hx hb d_Fd_bring_0 rfl (lv_at hl 1 rfl) ?_
  obtain ⟨q_1, hc_1, hf⟩ := oc_e hf
  refine kcS (cc := c_Fd_bring) (own := "FloodDiary") (index := 173) (wc := ([] : va_W)) (wr := W_Fd G a (b 0) (W_S2 G b w) v) (wc' := ([] : va_W)) (ws' := W_Fd G a (b 0) (W_S2 G b w) v) hx hb hml hown hts hK hN hA hP hD hS (t_Fd_isSlot l G l1 q_1 hc_1) m_Fd_isSlot k_725 ⟨Nat.le_of_ble_eq_true rfl, Nat.le_of_ble_eq_true rfl⟩ (List.Perm.refl _) (List.Perm.refl _) rfl rfl (Nat.le_of_ble_eq_true rfl) hl.1 d_Fd_bring_1 ⟨Nat.zero_le _, Nat.zero_le _⟩ (fun H locs hP hD hS => ?_)
  refine lv_if_ne (tgt := 10) hx hb d_Fd_bring_4 (by decide) (fun c_4 => ?_) (fun c_4 => ?_)
  · replace hf := ob_ef c_4 hf
    refine lv_aload_n hx hb d_Fd_bring_10 rfl (lv_at hl 0 rfl) ?_
    refine va_get (D := G.1) (ci := 8) (v := .ref (b 0)) (C := R_Fd) (T := T_Fd) (N := 6) hx hb hts in_Fd hown hK hP 0 rfl rfl 3 (by decide) (hts _ k_221) (fun _ h9 => h9) rfl d_Fd_bring_11 ?_
    refine lv_iload_n hx hb d_Fd_bring_14 rfl (lv_at hl 1 rfl) ?_
    obtain ⟨q_15, hc_15, hf⟩ := oc_e hf
    refine kcV (cc := c_Fd_bring) (own := "FloodDiary") (index := 184) (wc := W_S2 G b w) (wr := O_Fd G a (b 0) ++ (W_St G (sh a 1) v.1 ++ (W_St G (sh a 21) v.2.1 ++ (W_Pd G (sh a 41) v.2.2.1 ++ (W_Or G (sh a 43) v.2.2.2.1 ++ (W_Hi G (sh a 48) v.2.2.2.2 ++ (([] : va_W)))))))) (wc' := W_S2 G b w) (ws' := W_Fd G a (b 0) (W_S2 G b w) v) hx hb hml hown hts hK hN hA hP hD hS (t_S2_isFilled l G b l1 w q_15 hc_15) m_Sl_isFilled k_739 ⟨Nat.le_of_ble_eq_true rfl, Nat.le_of_ble_eq_true rfl⟩ (pm_44 (O_Fd G a (b 0)) (W_St G (sh a 1) v.1) (W_St G (sh a 21) v.2.1) (W_Pd G (sh a 41) v.2.2.1) (W_Or G (sh a 43) v.2.2.2.1) (W_Hi G (sh a 48) v.2.2.2.2) (W_S2 G b w)) (pm_44 (O_Fd G a (b 0)) (W_St G (sh a 1) v.1) (W_St G (sh a 21) v.2.1) (W_Pd G (sh a 41) v.2.2.1) (W_Or G (sh a 43) v.2.2.2.1) (W_Hi G (sh a 48) v.2.2.2.2) (W_S2 G b w)).symm 5 0 rfl rfl rfl rfl rfl (Nat.le_of_ble_eq_true rfl) hl.1 d_Fd_bring_15 ⟨Nat.zero_le _, Nat.zero_le _⟩ (fun H locs hP hD hS => ?_)
    refine lv_if_ne (tgt := 24) hx hb d_Fd_bring_18 (by decide) (fun c_18 => ?_) (fun c_18 => ?_)
    · replace hf := ob_ef c_18 hf
      refine lv_aload_n hx hb d_Fd_bring_24 rfl (lv_at hl 0 rfl) ?_
      refine va_get (D := G.1) (ci := 8) (v := .ref (a 48)) (C := R_Fd) (T := T_Fd) (N := 6) hx hb hts in_Fd hown hK hP 0 rfl rfl 2 (by decide) (hts _ k_220) (fun _ h9 => h9) rfl d_Fd_bring_25 ?_
      refine lv_aload_n hx hb d_Fd_bring_28 rfl (lv_at hl 0 rfl) ?_
      refine va_get (D := G.1) (ci := 8) (v := .ref (a 1)) (C := R_Fd) (T := T_Fd) (N := 6) hx hb hts in_Fd hown hK hP 0 rfl rfl 0 (by decide) (hts _ k_218) (fun _ h9 => h9) rfl d_Fd_bring_29 ?_
      obtain ⟨q_32, hc_32, hf⟩ := oc_e hf
      refine kcVv (cc := c_Fd_bring) (own := "FloodDiary") (index := 47) (wc := W_Hi G (sh a 48) v.2.2.2.2 ++ W_St G (sh a 1) v.1) (wr := O_Fd G a (b 0) ++ (W_St G (sh a 21) v.2.1 ++ (W_Pd G (sh a 41) v.2.2.1 ++ (W_Or G (sh a 43) v.2.2.2.1 ++ (W_S2 G b w ++ (([] : va_W))))))) (wc' := W_Hi G (sh a 48) q_32 ++ W_St G (sh a 1) v.1) (ws' := W_Fd G a (b 0) (W_S2 G b w) (v.1, v.2.1, v.2.2.1, v.2.2.2.1, q_32)) hx hb hml hown hts hK hN hA hP hD hS (t_Hi_prepare l G (sh a 48) (sh a 1) v.2.2.2.2 v.1 q_32 hc_32) m_Hi_prepare k_241 ⟨Nat.le_of_ble_eq_true rfl, Nat.le_of_ble_eq_true rfl⟩ (pm_33 (O_Fd G a (b 0)) (W_St G (sh a 1) v.1) (W_St G (sh a 21) v.2.1) (W_Pd G (sh a 41) v.2.2.1) (W_Or G (sh a 43) v.2.2.2.1) (W_Hi G (sh a 48) v.2.2.2.2) (W_S2 G b w)) (pm_33 (O_Fd G a (b 0)) (W_St G (sh a 1) v.1) (W_St G (sh a 21) v.2.1) (W_Pd G (sh a 41) v.2.2.1) (W_Or G (sh a 43) v.2.2.2.1) (W_Hi G (sh a 48) q_32) (W_S2 G b w)).symm 1 0 rfl rfl rfl rfl rfl (Nat.le_of_ble_eq_true rfl) hl.1 d_Fd_bring_32 ⟨Nat.zero_le _, Nat.zero_le _⟩ (fun H locs hP hD hS => ?_)
      refine lv_aload_n hx hb d_Fd_bring_35 rfl (lv_at hl 0 rfl) ?_
      refine va_get (D := G.1) (ci := 8) (v := .ref (b 0)) (C := R_Fd) (T := T_Fd) (N := 6) hx hb hts in_Fd hown hK hP 0 rfl rfl 3 (by decide) (hts _ k_221) (fun _ h9 => h9) rfl d_Fd_bring_36 ?_
      refine lv_iload_n hx hb d_Fd_bring_39 rfl (lv_at hl 1 rfl) ?_
      refine lv_aload_n hx hb d_Fd_bring_40 rfl (lv_at hl 0 rfl) ?_
      refine va_get (D := G.1) (ci := 8) (v := .ref (a 1)) (C := R_Fd) (T := T_Fd) (N := 6) hx hb hts in_Fd hown hK hP 0 rfl rfl 0 (by decide) (hts _ k_218) (fun _ h9 => h9) rfl d_Fd_bring_41 ?_
      obtain ⟨q_44, hc_44, hf⟩ := oc_e hf
      refine kcVv (cc := c_Fd_bring) (own := "FloodDiary") (index := 187) (wc := W_S2 G b w ++ W_St G (sh a 1) v.1) (wr := O_Fd G a (b 0) ++ (W_St G (sh a 21) v.2.1 ++ (W_Pd G (sh a 41) v.2.2.1 ++ (W_Or G (sh a 43) v.2.2.2.1 ++ (W_Hi G (sh a 48) q_32 ++ (([] : va_W))))))) (wc' := W_S2 G b w ++ W_St G (sh a 1) q_44) (ws' := W_Fd G a (b 0) (W_S2 G b w) (q_44, v.2.1, v.2.2.1, v.2.2.2.1, q_32)) hx hb hml hown hts hK hN hA hP hD hS (t_S2_fetch l G b (sh a 1) l1 w v.1 q_44 hc_44) m_Sl_fetch k_743 ⟨Nat.le_of_ble_eq_true rfl, Nat.le_of_ble_eq_true rfl⟩ (pm_45 (O_Fd G a (b 0)) (W_St G (sh a 1) v.1) (W_St G (sh a 21) v.2.1) (W_Pd G (sh a 41) v.2.2.1) (W_Or G (sh a 43) v.2.2.2.1) (W_Hi G (sh a 48) q_32) (W_S2 G b w)) (pm_45 (O_Fd G a (b 0)) (W_St G (sh a 1) q_44) (W_St G (sh a 21) v.2.1) (W_Pd G (sh a 41) v.2.2.1) (W_Or G (sh a 43) v.2.2.2.1) (W_Hi G (sh a 48) q_32) (W_S2 G b w)).symm 5 0 rfl rfl rfl rfl rfl (Nat.le_of_ble_eq_true rfl) hl.1 d_Fd_bring_44 ⟨Nat.zero_le _, Nat.zero_le _⟩ (fun H locs hP hD hS => ?_)
      refine lv_aload_n hx hb d_Fd_bring_47 rfl (lv_at hl 0 rfl) ?_
      refine va_get (D := G.1) (ci := 8) (v := .ref (a 48)) (C := R_Fd) (T := T_Fd) (N := 6) hx hb hts in_Fd hown hK hP 0 rfl rfl 2 (by decide) (hts _ k_220) (fun _ h9 => h9) rfl d_Fd_bring_48 ?_
      refine lv_aload_n hx hb d_Fd_bring_51 rfl (lv_at hl 0 rfl) ?_
      refine va_get (D := G.1) (ci := 8) (v := .ref (a 1)) (C := R_Fd) (T := T_Fd) (N := 6) hx hb hts in_Fd hown hK hP 0 rfl rfl 0 (by decide) (hts _ k_218) (fun _ h9 => h9) rfl d_Fd_bring_52 ?_
      refine va_getN (D := G.1) (ci := 6) (v := .ref (a 7)) (C := R_St) (T := T_St) (N := 9) (host := "FloodDiary") hx hb hts in_St hown hK hP 1 rfl rfl 1 (by decide) (va_Nw.use rfl (hN.1 _ nsF_6)) (fun _ h9 => h9) rfl d_Fd_bring_55 ?_
      refine va_getN (D := G.1) (ci := 0) (v := .int q_44.2.1.2.2.2.2.2.2.2.1) (C := R_Dy) (T := T_Dy) (N := 9) (host := "FloodDiary") hx hb hts in_Dy hown hK hP 7 rfl rfl 7 (by decide) (va_Nw.use rfl (hN.1 _ nsF_2)) (fun _ h9 => h9) rfl d_Fd_bring_58 ?_
      obtain ⟨q_61, hc_61, hf⟩ := oc_e hf
      refine kcV (cc := c_Fd_bring) (own := "FloodDiary") (index := 55) (wc := W_Hi G (sh a 48) q_32) (wr := O_Fd G a (b 0) ++ (W_St G (sh a 1) q_44 ++ (W_St G (sh a 21) v.2.1 ++ (W_Pd G (sh a 41) v.2.2.1 ++ (W_Or G (sh a 43) v.2.2.2.1 ++ (W_S2 G b w ++ (([] : va_W)))))))) (wc' := W_Hi G (sh a 48) q_61.2) (ws' := W_Fd G a (b 0) (W_S2 G b w) (q_44, v.2.1, v.2.2.1, v.2.2.2.1, q_61.2)) hx hb hml hown hts hK hN hA hP hD hS (t_Hi_record l G (sh a 48) q_44.2.1.2.2.2.2.2.2.2.1 q_32 q_61 hc_61) m_Hi_record k_298 ⟨Nat.le_of_ble_eq_true rfl, Nat.le_of_ble_eq_true rfl⟩ (pm_34 (O_Fd G a (b 0)) (W_St G (sh a 1) q_44) (W_St G (sh a 21) v.2.1) (W_Pd G (sh a 41) v.2.2.1) (W_Or G (sh a 43) v.2.2.2.1) (W_Hi G (sh a 48) q_32) (W_S2 G b w)) (pm_34 (O_Fd G a (b 0)) (W_St G (sh a 1) q_44) (W_St G (sh a 21) v.2.1) (W_Pd G (sh a 41) v.2.2.1) (W_Or G (sh a 43) v.2.2.2.1) (W_Hi G (sh a 48) q_61.2) (W_S2 G b w)).symm 1 0 rfl rfl rfl rfl rfl (Nat.le_of_ble_eq_true rfl) hl.1 d_Fd_bring_61 ⟨Nat.zero_le _, Nat.zero_le _⟩ (fun H locs hP hD hS => ?_)
      cases hf
      exact kI hx hb hr hlk hP hD hS d_Fd_bring_64
    · replace hf := ob_et c_18 hf
      refine lv_bipush (v := (-5 : Int32)) hx hb d_Fd_bring_21 (by decide) ?_
      cases hf
      exact kI hx hb hr hlk hP hD hS d_Fd_bring_23
  · replace hf := ob_et c_4 hf
    refine lv_bipush (v := (-2 : Int32)) hx hb d_Fd_bring_7 (by decide) ?_
    cases hf
    exact kI hx hb hr hlk hP hD hS d_Fd_bring_9
set_option maxHeartbeats 4000000 in
set_option maxRecDepth 100000 in
theorem t_Fd_bring_S3 (l : Launch) (G : GG) (a : Nat → Nat) (b : Nat → Nat) (l1 : Int32) (v : V_Fd) (w : V_S3) (q : Int32 × V_Fd) (hf : f_Fd_bring_S3 l1 v w = some q) : MI l G y_Fd_bring c_Fd_bring 2 (some .int) (rmk 4 84) (W_Fd G a (b 0) (W_S3 G b w) v) [.ref (a 0), .int l1] (W_Fd G a (b 0) (W_S3 G b w) q.2) (q.1) := by
  refine ofI "FloodDiary" (by decide +kernel) rfl (Nat.le_of_ble_eq_true rfl) (fun p e s m args below meth c A ls hx hb hr hml hown hts hlk hK hN hA hP hD hS hl => ?_)
  have hl : lv_has ls 2 [(0, .ref (a 0)), (1, .int l1)] := hl
  unfold f_Fd_bring_S3 at hf
  refine lv_iload_n hx hb d_Fd_bring_0 rfl (lv_at hl 1 rfl) ?_
  obtain ⟨q_1, hc_1, hf⟩ := oc_e hf
  refine kcS (cc := c_Fd_bring) (own := "FloodDiary") (index := 173) (wc := ([] : va_W)) (wr := W_Fd G a (b 0) (W_S3 G b w) v) (wc' := ([] : va_W)) (ws' := W_Fd G a (b 0) (W_S3 G b w) v) hx hb hml hown hts hK hN hA hP hD hS (t_Fd_isSlot l G l1 q_1 hc_1) m_Fd_isSlot k_725 ⟨Nat.le_of_ble_eq_true rfl, Nat.le_of_ble_eq_true rfl⟩ (List.Perm.refl _) (List.Perm.refl _) rfl rfl (Nat.le_of_ble_eq_true rfl) hl.1 d_Fd_bring_1 ⟨Nat.zero_le _, Nat.zero_le _⟩ (fun H locs hP hD hS => ?_)
  refine lv_if_ne (tgt := 10) hx hb d_Fd_bring_4 (by decide) (fun c_4 => ?_) (fun c_4 => ?_)
  · replace hf := ob_ef c_4 hf
    refine lv_aload_n hx hb d_Fd_bring_10 rfl (lv_at hl 0 rfl) ?_
    refine va_get (D := G.1) (ci := 8) (v := .ref (b 0)) (C := R_Fd) (T := T_Fd) (N := 6) hx hb hts in_Fd hown hK hP 0 rfl rfl 3 (by decide) (hts _ k_221) (fun _ h9 => h9) rfl d_Fd_bring_11 ?_
    refine lv_iload_n hx hb d_Fd_bring_14 rfl (lv_at hl 1 rfl) ?_
    obtain ⟨q_15, hc_15, hf⟩ := oc_e hf
    refine kcV (cc := c_Fd_bring) (own := "FloodDiary") (index := 184) (wc := W_S3 G b w) (wr := O_Fd G a (b 0) ++ (W_St G (sh a 1) v.1 ++ (W_St G (sh a 21) v.2.1 ++ (W_Pd G (sh a 41) v.2.2.1 ++ (W_Or G (sh a 43) v.2.2.2.1 ++ (W_Hi G (sh a 48) v.2.2.2.2 ++ (([] : va_W)))))))) (wc' := W_S3 G b w) (ws' := W_Fd G a (b 0) (W_S3 G b w) v) hx hb hml hown hts hK hN hA hP hD hS (t_S3_isFilled l G b l1 w q_15 hc_15) m_Sl_isFilled k_739 ⟨Nat.le_of_ble_eq_true rfl, Nat.le_of_ble_eq_true rfl⟩ (pm_44 (O_Fd G a (b 0)) (W_St G (sh a 1) v.1) (W_St G (sh a 21) v.2.1) (W_Pd G (sh a 41) v.2.2.1) (W_Or G (sh a 43) v.2.2.2.1) (W_Hi G (sh a 48) v.2.2.2.2) (W_S3 G b w)) (pm_44 (O_Fd G a (b 0)) (W_St G (sh a 1) v.1) (W_St G (sh a 21) v.2.1) (W_Pd G (sh a 41) v.2.2.1) (W_Or G (sh a 43) v.2.2.2.1) (W_Hi G (sh a 48) v.2.2.2.2) (W_S3 G b w)).symm 5 0 rfl rfl rfl rfl rfl (Nat.le_of_ble_eq_true rfl) hl.1 d_Fd_bring_15 ⟨Nat.zero_le _, Nat.zero_le _⟩ (fun H locs hP hD hS => ?_)
    refine lv_if_ne (tgt := 24) hx hb d_Fd_bring_18 (by decide) (fun c_18 => ?_) (fun c_18 => ?_)
    · replace hf := ob_ef c_18 hf
      refine lv_aload_n hx hb d_Fd_bring_24 rfl (lv_at hl 0 rfl) ?_
      refine va_get (D := G.1) (ci := 8) (v := .ref (a 48)) (C := R_Fd) (T := T_Fd) (N := 6) hx hb hts in_Fd hown hK hP 0 rfl rfl 2 (by decide) (hts _ k_220) (fun _ h9 => h9) rfl d_Fd_bring_25 ?_
      refine lv_aload_n hx hb d_Fd_bring_28 rfl (lv_at hl 0 rfl) ?_
      refine va_get (D := G.1) (ci := 8) (v := .ref (a 1)) (C := R_Fd) (T := T_Fd) (N := 6) hx hb hts in_Fd hown hK hP 0 rfl rfl 0 (by decide) (hts _ k_218) (fun _ h9 => h9) rfl d_Fd_bring_29 ?_
      obtain ⟨q_32, hc_32, hf⟩ := oc_e hf
      refine kcVv (cc := c_Fd_bring) (own := "FloodDiary") (index := 47) (wc := W_Hi G (sh a 48) v.2.2.2.2 ++ W_St G (sh a 1) v.1) (wr := O_Fd G a (b 0) ++ (W_St G (sh a 21) v.2.1 ++ (W_Pd G (sh a 41) v.2.2.1 ++ (W_Or G (sh a 43) v.2.2.2.1 ++ (W_S3 G b w ++ (([] : va_W))))))) (wc' := W_Hi G (sh a 48) q_32 ++ W_St G (sh a 1) v.1) (ws' := W_Fd G a (b 0) (W_S3 G b w) (v.1, v.2.1, v.2.2.1, v.2.2.2.1, q_32)) hx hb hml hown hts hK hN hA hP hD hS (t_Hi_prepare l G (sh a 48) (sh a 1) v.2.2.2.2 v.1 q_32 hc_32) m_Hi_prepare k_241 ⟨Nat.le_of_ble_eq_true rfl, Nat.le_of_ble_eq_true rfl⟩ (pm_33 (O_Fd G a (b 0)) (W_St G (sh a 1) v.1) (W_St G (sh a 21) v.2.1) (W_Pd G (sh a 41) v.2.2.1) (W_Or G (sh a 43) v.2.2.2.1) (W_Hi G (sh a 48) v.2.2.2.2) (W_S3 G b w)) (pm_33 (O_Fd G a (b 0)) (W_St G (sh a 1) v.1) (W_St G (sh a 21) v.2.1) (W_Pd G (sh a 41) v.2.2.1) (W_Or G (sh a 43) v.2.2.2.1) (W_Hi G (sh a 48) q_32) (W_S3 G b w)).symm 1 0 rfl rfl rfl rfl rfl (Nat.le_of_ble_eq_true rfl) hl.1 d_Fd_bring_32 ⟨Nat.zero_le _, Nat.zero_le _⟩ (fun H locs hP hD hS => ?_)
      refine lv_aload_n hx hb d_Fd_bring_35 rfl (lv_at hl 0 rfl) ?_
      refine va_get (D := G.1) (ci := 8) (v := .ref (b 0)) (C := R_Fd) (T := T_Fd) (N := 6) hx hb hts in_Fd hown hK hP 0 rfl rfl 3 (by decide) (hts _ k_221) (fun _ h9 => h9) rfl d_Fd_bring_36 ?_
      refine lv_iload_n hx hb d_Fd_bring_39 rfl (lv_at hl 1 rfl) ?_
      refine lv_aload_n hx hb d_Fd_bring_40 rfl (lv_at hl 0 rfl) ?_
      refine va_get (D := G.1) (ci := 8) (v := .ref (a 1)) (C := R_Fd) (T := T_Fd) (N := 6) hx hb hts in_Fd hown hK hP 0 rfl rfl 0 (by decide) (hts _ k_218) (fun _ h9 => h9) rfl d_Fd_bring_41 ?_
      obtain ⟨q_44, hc_44, hf⟩ := oc_e hf
      refine kcVv (cc := c_Fd_bring) (own := "FloodDiary") (index := 187) (wc := W_S3 G b w ++ W_St G (sh a 1) v.1) (wr := O_Fd G a (b 0) ++ (W_St G (sh a 21) v.2.1 ++ (W_Pd G (sh a 41) v.2.2.1 ++ (W_Or G (sh a 43) v.2.2.2.1 ++ (W_Hi G (sh a 48) q_32 ++ (([] : va_W))))))) (wc' := W_S3 G b w ++ W_St G (sh a 1) q_44) (ws' := W_Fd G a (b 0) (W_S3 G b w) (q_44, v.2.1, v.2.2.1, v.2.2.2.1, q_32)) hx hb hml hown hts hK hN hA hP hD hS (t_S3_fetch l G b (sh a 1) l1 w v.1 q_44 hc_44) m_Sl_fetch k_743 ⟨Nat.le_of_ble_eq_true rfl, Nat.le_of_ble_eq_true rfl⟩ (pm_45 (O_Fd G a (b 0)) (W_St G (sh a 1) v.1) (W_St G (sh a 21) v.2.1) (W_Pd G (sh a 41) v.2.2.1) (W_Or G (sh a 43) v.2.2.2.1) (W_Hi G (sh a 48) q_32) (W_S3 G b w)) (pm_45 (O_Fd G a (b 0)) (W_St G (sh a 1) q_44) (W_St G (sh a 21) v.2.1) (W_Pd G (sh a 41) v.2.2.1) (W_Or G (sh a 43) v.2.2.2.1) (W_Hi G (sh a 48) q_32) (W_S3 G b w)).symm 5 0 rfl rfl rfl rfl rfl (Nat.le_of_ble_eq_true rfl) hl.1 d_Fd_bring_44 ⟨Nat.zero_le _, Nat.zero_le _⟩ (fun H locs hP hD hS => ?_)
      refine lv_aload_n hx hb d_Fd_bring_47 rfl (lv_at hl 0 rfl) ?_
      refine va_get (D := G.1) (ci := 8) (v := .ref (a 48)) (C := R_Fd) (T := T_Fd) (N := 6) hx hb hts in_Fd hown hK hP 0 rfl rfl 2 (by decide) (hts _ k_220) (fun _ h9 => h9) rfl d_Fd_bring_48 ?_
      refine lv_aload_n hx hb d_Fd_bring_51 rfl (lv_at hl 0 rfl) ?_
      refine va_get (D := G.1) (ci := 8) (v := .ref (a 1)) (C := R_Fd) (T := T_Fd) (N := 6) hx hb hts in_Fd hown hK hP 0 rfl rfl 0 (by decide) (hts _ k_218) (fun _ h9 => h9) rfl d_Fd_bring_52 ?_
      refine va_getN (D := G.1) (ci := 6) (v := .ref (a 7)) (C := R_St) (T := T_St) (N := 9) (host := "FloodDiary") hx hb hts in_St hown hK hP 1 rfl rfl 1 (by decide) (va_Nw.use rfl (hN.1 _ nsF_6)) (fun _ h9 => h9) rfl d_Fd_bring_55 ?_
      refine va_getN (D := G.1) (ci := 0) (v := .int q_44.2.1.2.2.2.2.2.2.2.1) (C := R_Dy) (T := T_Dy) (N := 9) (host := "FloodDiary") hx hb hts in_Dy hown hK hP 7 rfl rfl 7 (by decide) (va_Nw.use rfl (hN.1 _ nsF_2)) (fun _ h9 => h9) rfl d_Fd_bring_58 ?_
      obtain ⟨q_61, hc_61, hf⟩ := oc_e hf
      refine kcV (cc := c_Fd_bring) (own := "FloodDiary") (index := 55) (wc := W_Hi G (sh a 48) q_32) (wr := O_Fd G a (b 0) ++ (W_St G (sh a 1) q_44 ++ (W_St G (sh a 21) v.2.1 ++ (W_Pd G (sh a 41) v.2.2.1 ++ (W_Or G (sh a 43) v.2.2.2.1 ++ (W_S3 G b w ++ (([] : va_W)))))))) (wc' := W_Hi G (sh a 48) q_61.2) (ws' := W_Fd G a (b 0) (W_S3 G b w) (q_44, v.2.1, v.2.2.1, v.2.2.2.1, q_61.2)) hx hb hml hown hts hK hN hA hP hD hS (t_Hi_record l G (sh a 48) q_44.2.1.2.2.2.2.2.2.2.1 q_32 q_61 hc_61) m_Hi_record k_298 ⟨Nat.le_of_ble_eq_true rfl, Nat.le_of_ble_eq_true rfl⟩ (pm_34 (O_Fd G a (b 0)) (W_St G (sh a 1) q_44) (W_St G (sh a 21) v.2.1) (W_Pd G (sh a 41) v.2.2.1) (W_Or G (sh a 43) v.2.2.2.1) (W_Hi G (sh a 48) q_32) (W_S3 G b w)) (pm_34 (O_Fd G a (b 0)) (W_St G (sh a 1) q_44) (W_St G (sh a 21) v.2.1) (W_Pd G (sh a 41) v.2.2.1) (W_Or G (sh a 43) v.2.2.2.1) (W_Hi G (sh a 48) q_61.2) (W_S3 G b w)).symm 1 0 rfl rfl rfl rfl rfl (Nat.le_of_ble_eq_true rfl) hl.1 d_Fd_bring_61 ⟨Nat.zero_le _, Nat.zero_le _⟩ (fun H locs hP hD hS => ?_)
      cases hf
      exact kI hx hb hr hlk hP hD hS d_Fd_bring_64
    · replace hf := ob_et c_18 hf
      refine lv_bipush (v := (-5 : Int32)) hx hb d_Fd_bring_21 (by decide) ?_
      cases hf
      exact kI hx hb hr hlk hP hD hS d_Fd_bring_23
  · replace hf := ob_et c_4 hf
    refine lv_bipush (v := (-2 : Int32)) hx hb d_Fd_bring_7 (by decide) ?_
    cases hf
    exact kI hx hb hr hlk hP hD hS d_Fd_bring_9
