theorem pm_32 (x0 x1 x2 x3 x4 x5 x6 : va_W) : List.Perm (x0 ++ (x1 ++ (x2 ++ (x3 ++ (x4 ++ (x5 ++ (x6 ++ (([] : va_W))))))))) ((x2 ++ x1) ++ (x0 ++ (x3 ++ (x4 ++ (x5 ++ (x6 ++ (([] : va_W)))))))) := prm (fun d z => by first | (simp only [List.count_append, List.count_nil]; omega) | simp only [List.count_append, List.count_nil])
set_option maxHeartbeats 4000000 in
set_option maxRecDepth 100000 in
theorem t_Fd_tryFlood (l : Launch) (G : GG) (a : Nat → Nat) (h : Nat) (X : va_W) (v : V_Fd) (q : V_Fd) (hf : f_Fd_tryFlood v = some q) : MV l G y_Fd_tryFlood c_Fd_tryFlood 1 (rmk 5 111) (W_Fd G a h X v) [.ref (a 0)] (W_Fd G a h X q) := by
  refine ofV "FloodDiary" (by decide +kernel) rfl (Nat.le_of_ble_eq_true rfl) (fun p e s m args below meth c A ls hx hb hr hml hown hts hlk hK hN hA hP hD hS hl => ?_)
  have hl : lv_has ls 1 [(0, .ref (a 0))] := hl
  unfold f_Fd_tryFlood at hf
  refine lv_aload_n hx hb d_Fd_tryFlood_0 rfl (lv_at hl 0 rfl) ?_
  refine va_get (D := G.1) (ci := 8) (v := .ref (a 21)) (C := R_Fd) (T := T_Fd) (N := 6) hx hb hts in_Fd hown hK hP 0 rfl rfl 1 (by decide) (hts _ k_219) (fun _ h9 => h9) rfl d_Fd_tryFlood_1 ?_
  refine lv_aload_n hx hb d_Fd_tryFlood_4 rfl (lv_at hl 0 rfl) ?_
  refine va_get (D := G.1) (ci := 8) (v := .ref (a 1)) (C := R_Fd) (T := T_Fd) (N := 6) hx hb hts in_Fd hown hK hP 0 rfl rfl 0 (by decide) (hts _ k_218) (fun _ h9 => h9) rfl d_Fd_tryFlood_5 ?_
  obtain ⟨q_8, hc_8, hf⟩ := oc_e hf
  refine kcVv (cc := c_Fd_tryFlood) (own := "FloodDiary") (index := 138) (wc := W_St G (sh a 21) v.2.1 ++ W_St G (sh a 1) v.1) (wr := O_Fd G a h ++ (W_Pd G (sh a 41) v.2.2.1 ++ (W_Or G (sh a 43) v.2.2.2.1 ++ (W_Hi G (sh a 48) v.2.2.2.2 ++ (X ++ (([] : va_W))))))) (wc' := W_St G (sh a 21) q_8 ++ W_St G (sh a 1) v.1) (ws' := W_Fd G a h X (v.1, q_8, v.2.2.1, v.2.2.2.1, v.2.2.2.2)) hx hb hml hown hts hK hN hA hP hD hS (t_St_become l G (sh a 21) (sh a 1) v.2.1 v.1 q_8 hc_8) m_St_become k_598 ⟨Nat.le_of_ble_eq_true rfl, Nat.le_of_ble_eq_true rfl⟩ (pm_32 (O_Fd G a h) (W_St G (sh a 1) v.1) (W_St G (sh a 21) v.2.1) (W_Pd G (sh a 41) v.2.2.1) (W_Or G (sh a 43) v.2.2.2.1) (W_Hi G (sh a 48) v.2.2.2.2) X) (pm_32 (O_Fd G a h) (W_St G (sh a 1) v.1) (W_St G (sh a 21) q_8) (W_Pd G (sh a 41) v.2.2.1) (W_Or G (sh a 43) v.2.2.2.1) (W_Hi G (sh a 48) v.2.2.2.2) X).symm 6 0 rfl rfl rfl rfl rfl (Nat.le_of_ble_eq_true rfl) hl.1 d_Fd_tryFlood_8 ⟨Nat.zero_le _, Nat.zero_le _⟩ (fun H locs hP hD hS => ?_)
  refine lv_aload_n hx hb d_Fd_tryFlood_11 rfl (lv_at hl 0 rfl) ?_
  refine va_get (D := G.1) (ci := 8) (v := .ref (a 21)) (C := R_Fd) (T := T_Fd) (N := 6) hx hb hts in_Fd hown hK hP 0 rfl rfl 1 (by decide) (hts _ k_219) (fun _ h9 => h9) rfl d_Fd_tryFlood_12 ?_
  refine va_getN (D := G.1) (ci := 6) (v := .int q_8.2.2.2.1) (C := R_St) (T := T_St) (N := 9) (host := "FloodDiary") hx hb hts in_St hown hK hP 21 rfl rfl 3 (by decide) (va_Nw.use rfl (hN.1 _ nsF_8)) (fun _ h9 => h9) rfl d_Fd_tryFlood_15 ?_
  refine lv_if_ne (tgt := 29) hx hb d_Fd_tryFlood_18 (by decide) (fun c_18 => ?_) (fun c_18 => ?_)
  · replace hf := ob_ef c_18 hf
    cases hf
    exact kV hx hb hr hlk hP hD hS d_Fd_tryFlood_29
  · replace hf := ob_et c_18 hf
    refine lv_aload_n hx hb d_Fd_tryFlood_21 rfl (lv_at hl 0 rfl) ?_
    refine va_get (D := G.1) (ci := 8) (v := .ref (a 21)) (C := R_Fd) (T := T_Fd) (N := 6) hx hb hts in_Fd hown hK hP 0 rfl rfl 1 (by decide) (hts _ k_219) (fun _ h9 => h9) rfl d_Fd_tryFlood_22 ?_
    obtain ⟨q_25, hc_25, hf⟩ := oc_e hf
    refine kcV (cc := c_Fd_tryFlood) (own := "FloodDiary") (index := 75) (wc := W_St G (sh a 21) q_8) (wr := O_Fd G a h ++ (W_St G (sh a 1) v.1 ++ (W_Pd G (sh a 41) v.2.2.1 ++ (W_Or G (sh a 43) v.2.2.2.1 ++ (W_Hi G (sh a 48) v.2.2.2.2 ++ (X ++ (([] : va_W)))))))) (wc' := W_St G (sh a 21) q_25.2) (ws' := W_Fd G a h X (v.1, q_25.2, v.2.2.1, v.2.2.2.1, v.2.2.2.2)) hx hb hml hown hts hK hN hA hP hD hS (t_St_takeFlood l G (sh a 21) q_8 q_25 hc_25) m_St_takeFlood k_439 ⟨Nat.le_of_ble_eq_true rfl, Nat.le_of_ble_eq_true rfl⟩ (pm_14 (O_Fd G a h) (W_St G (sh a 1) v.1) (W_St G (sh a 21) q_8) (W_Pd G (sh a 41) v.2.2.1) (W_Or G (sh a 43) v.2.2.2.1) (W_Hi G (sh a 48) v.2.2.2.2) X) (pm_14 (O_Fd G a h) (W_St G (sh a 1) v.1) (W_St G (sh a 21) q_25.2) (W_Pd G (sh a 41) v.2.2.1) (W_Or G (sh a 43) v.2.2.2.1) (W_Hi G (sh a 48) v.2.2.2.2) X).symm 6 0 rfl rfl rfl rfl rfl (Nat.le_of_ble_eq_true rfl) hl.1 d_Fd_tryFlood_25 ⟨Nat.zero_le _, Nat.zero_le _⟩ (fun H locs hP hD hS => ?_)
    refine lv_pop hx hb d_Fd_tryFlood_28 rfl ?_
    cases hf
    exact kV hx hb hr hlk hP hD hS d_Fd_tryFlood_29
theorem pm_33 (x0 x1 x2 x3 x4 x5 x6 : va_W) : List.Perm (x0 ++ (x1 ++ (x2 ++ (x3 ++ (x4 ++ (x5 ++ (x6 ++ (([] : va_W))))))))) ((x5 ++ x1) ++ (x0 ++ (x2 ++ (x3 ++ (x4 ++ (x6 ++ (([] : va_W)))))))) := prm (fun d z => by first | (simp only [List.count_append, List.count_nil]; omega) | simp only [List.count_append, List.count_nil])
theorem pm_34 (x0 x1 x2 x3 x4 x5 x6 : va_W) : List.Perm (x0 ++ (x1 ++ (x2 ++ (x3 ++ (x4 ++ (x5 ++ (x6 ++ (([] : va_W))))))))) ((x5) ++ (x0 ++ (x1 ++ (x2 ++ (x3 ++ (x4 ++ (x6 ++ (([] : va_W))))))))) := prm (fun d z => by first | (simp only [List.count_append, List.count_nil]; omega) | simp only [List.count_append, List.count_nil])
set_option maxHeartbeats 4000000 in
set_option maxRecDepth 100000 in
theorem t_Fd_begin (l : Launch) (G : GG) (a : Nat → Nat) (h : Nat) (X : va_W) (v : V_Fd) (q : Int32 × V_Fd) (hf : f_Fd_begin v = some q) : MI l G y_Fd_begin c_Fd_begin 1 (some .int) (rmk 4 91) (W_Fd G a h X v) [.ref (a 0)] (W_Fd G a h X q.2) (q.1) := by
  refine ofI "FloodDiary" (by decide +kernel) rfl (Nat.le_of_ble_eq_true rfl) (fun p e s m args below meth c A ls hx hb hr hml hown hts hlk hK hN hA hP hD hS hl => ?_)
  have hl : lv_has ls 1 [(0, .ref (a 0))] := hl
  unfold f_Fd_begin at hf
  refine lv_aload_n hx hb d_Fd_begin_0 rfl (lv_at hl 0 rfl) ?_
  refine va_get (D := G.1) (ci := 8) (v := .ref (a 48)) (C := R_Fd) (T := T_Fd) (N := 6) hx hb hts in_Fd hown hK hP 0 rfl rfl 2 (by decide) (hts _ k_220) (fun _ h9 => h9) rfl d_Fd_begin_1 ?_
  refine lv_aload_n hx hb d_Fd_begin_4 rfl (lv_at hl 0 rfl) ?_
  refine va_get (D := G.1) (ci := 8) (v := .ref (a 1)) (C := R_Fd) (T := T_Fd) (N := 6) hx hb hts in_Fd hown hK hP 0 rfl rfl 0 (by decide) (hts _ k_218) (fun _ h9 => h9) rfl d_Fd_begin_5 ?_
  obtain ⟨q_8, hc_8, hf⟩ := oc_e hf
  refine kcVv (cc := c_Fd_begin) (own := "FloodDiary") (index := 47) (wc := W_Hi G (sh a 48) v.2.2.2.2 ++ W_St G (sh a 1) v.1) (wr := O_Fd G a h ++ (W_St G (sh a 21) v.2.1 ++ (W_Pd G (sh a 41) v.2.2.1 ++ (W_Or G (sh a 43) v.2.2.2.1 ++ (X ++ (([] : va_W))))))) (wc' := W_Hi G (sh a 48) q_8 ++ W_St G (sh a 1) v.1) (ws' := W_Fd G a h X (v.1, v.2.1, v.2.2.1, v.2.2.2.1, q_8)) hx hb hml hown hts hK hN hA hP hD hS (t_Hi_prepare l G (sh a 48) (sh a 1) v.2.2.2.2 v.1 q_8 hc_8) m_Hi_prepare k_241 ⟨Nat.le_of_ble_eq_true rfl, Nat.le_of_ble_eq_true rfl⟩ (pm_33 (O_Fd G a h) (W_St G (sh a 1) v.1) (W_St G (sh a 21) v.2.1) (W_Pd G (sh a 41) v.2.2.1) (W_Or G (sh a 43) v.2.2.2.1) (W_Hi G (sh a 48) v.2.2.2.2) X) (pm_33 (O_Fd G a h) (W_St G (sh a 1) v.1) (W_St G (sh a 21) v.2.1) (W_Pd G (sh a 41) v.2.2.1) (W_Or G (sh a 43) v.2.2.2.1) (W_Hi G (sh a 48) q_8) X).symm 1 0 rfl rfl rfl rfl rfl (Nat.le_of_ble_eq_true rfl) hl.1 d_Fd_begin_8 ⟨Nat.zero_le _, Nat.zero_le _⟩ (fun H locs hP hD hS => ?_)
  refine lv_aload_n hx hb d_Fd_begin_11 rfl (lv_at hl 0 rfl) ?_
  refine va_get (D := G.1) (ci := 8) (v := .ref (a 48)) (C := R_Fd) (T := T_Fd) (N := 6) hx hb hts in_Fd hown hK hP 0 rfl rfl 2 (by decide) (hts _ k_220) (fun _ h9 => h9) rfl d_Fd_begin_12 ?_
  refine lv_aload_n hx hb d_Fd_begin_15 rfl (lv_at hl 0 rfl) ?_
  refine va_get (D := G.1) (ci := 8) (v := .ref (a 1)) (C := R_Fd) (T := T_Fd) (N := 6) hx hb hts in_Fd hown hK hP 0 rfl rfl 0 (by decide) (hts _ k_218) (fun _ h9 => h9) rfl d_Fd_begin_16 ?_
  obtain ⟨q_19, hc_19, hf⟩ := oc_e hf
  refine kcV (cc := c_Fd_begin) (own := "FloodDiary") (index := 51) (wc := W_St G (sh a 1) v.1) (wr := O_Fd G a h ++ (W_St G (sh a 21) v.2.1 ++ (W_Pd G (sh a 41) v.2.2.1 ++ (W_Or G (sh a 43) v.2.2.2.1 ++ (W_Hi G (sh a 48) q_8 ++ (X ++ (([] : va_W)))))))) (wc' := W_St G (sh a 1) q_19.2) (ws' := W_Fd G a h X (q_19.2, v.2.1, v.2.2.1, v.2.2.2.1, q_8)) hx hb hml hown hts hK hN hA hP hD hS (t_St_beginWork l G (sh a 1) v.1 q_19 hc_19) m_St_beginWork k_266 ⟨Nat.le_of_ble_eq_true rfl, Nat.le_of_ble_eq_true rfl⟩ (pm_12 (O_Fd G a h) (W_St G (sh a 1) v.1) (W_St G (sh a 21) v.2.1) (W_Pd G (sh a 41) v.2.2.1) (W_Or G (sh a 43) v.2.2.2.1) (W_Hi G (sh a 48) q_8) X) (pm_12 (O_Fd G a h) (W_St G (sh a 1) q_19.2) (W_St G (sh a 21) v.2.1) (W_Pd G (sh a 41) v.2.2.1) (W_Or G (sh a 43) v.2.2.2.1) (W_Hi G (sh a 48) q_8) X).symm 6 0 rfl rfl rfl rfl rfl (Nat.le_of_ble_eq_true rfl) hl.1 d_Fd_begin_19 ⟨Nat.zero_le _, Nat.zero_le _⟩ (fun H locs hP hD hS => ?_)
  obtain ⟨q_22, hc_22, hf⟩ := oc_e hf
  refine kcV (cc := c_Fd_begin) (own := "FloodDiary") (index := 55) (wc := W_Hi G (sh a 48) q_8) (wr := O_Fd G a h ++ (W_St G (sh a 1) q_19.2 ++ (W_St G (sh a 21) v.2.1 ++ (W_Pd G (sh a 41) v.2.2.1 ++ (W_Or G (sh a 43) v.2.2.2.1 ++ (X ++ (([] : va_W)))))))) (wc' := W_Hi G (sh a 48) q_22.2) (ws' := W_Fd G a h X (q_19.2, v.2.1, v.2.2.1, v.2.2.2.1, q_22.2)) hx hb hml hown hts hK hN hA hP hD hS (t_Hi_record l G (sh a 48) q_19.1 q_8 q_22 hc_22) m_Hi_record k_298 ⟨Nat.le_of_ble_eq_true rfl, Nat.le_of_ble_eq_true rfl⟩ (pm_34 (O_Fd G a h) (W_St G (sh a 1) q_19.2) (W_St G (sh a 21) v.2.1) (W_Pd G (sh a 41) v.2.2.1) (W_Or G (sh a 43) v.2.2.2.1) (W_Hi G (sh a 48) q_8) X) (pm_34 (O_Fd G a h) (W_St G (sh a 1) q_19.2) (W_St G (sh a 21) v.2.1) (W_Pd G (sh a 41) v.2.2.1) (W_Or G (sh a 43) v.2.2.2.1) (W_Hi G (sh a 48) q_22.2) X).symm 1 0 rfl rfl rfl rfl rfl (Nat.le_of_ble_eq_true rfl) hl.1 d_Fd_begin_22 ⟨Nat.zero_le _, Nat.zero_le _⟩ (fun H locs hP hD hS => ?_)
  cases hf
  exact kI hx hb hr hlk hP hD hS d_Fd_begin_25
set_option maxHeartbeats 4000000 in
set_option maxRecDepth 100000 in
theorem t_Fd_write (l : Launch) (G : GG) (a : Nat → Nat) (h : Nat) (X : va_W) (l1 : Int32) (l2 : Int32) (l3 : Int32) (v : V_Fd) (q : Int32 × V_Fd) (hf : f_Fd_write l1 l2 l3 v = some q) : MI l G y_Fd_write c_Fd_write 4 (some .int) (rmk 5 111) (W_Fd G a h X v) [.ref (a 0), .int l1, .int l2, .int l3] (W_Fd G a h X q.2) (q.1) := by
  refine ofI "FloodDiary" (by decide +kernel) rfl (Nat.le_of_ble_eq_true rfl) (fun p e s m args below meth c A ls hx hb hr hml hown hts hlk hK hN hA hP hD hS hl => ?_)
  have hl : lv_has ls 4 [(0, .ref (a 0)), (1, .int l1), (2, .int l2), (3, .int l3)] := hl
  unfold f_Fd_write at hf
  refine lv_aload_n hx hb d_Fd_write_0 rfl (lv_at hl 0 rfl) ?_
  refine va_get (D := G.1) (ci := 8) (v := .ref (a 48)) (C := R_Fd) (T := T_Fd) (N := 6) hx hb hts in_Fd hown hK hP 0 rfl rfl 2 (by decide) (hts _ k_220) (fun _ h9 => h9) rfl d_Fd_write_1 ?_
  refine lv_aload_n hx hb d_Fd_write_4 rfl (lv_at hl 0 rfl) ?_
  refine va_get (D := G.1) (ci := 8) (v := .ref (a 1)) (C := R_Fd) (T := T_Fd) (N := 6) hx hb hts in_Fd hown hK hP 0 rfl rfl 0 (by decide) (hts _ k_218) (fun _ h9 => h9) rfl d_Fd_write_5 ?_
  obtain ⟨q_8, hc_8, hf⟩ := oc_e hf
  refine kcVv (cc := c_Fd_write) (own := "FloodDiary") (index := 47) (wc := W_Hi G (sh a 48) v.2.2.2.2 ++ W_St G (sh a 1) v.1) (wr := O_Fd G a h ++ (W_St G (sh a 21) v.2.1 ++ (W_Pd G (sh a 41) v.2.2.1 ++ (W_Or G (sh a 43) v.2.2.2.1 ++ (X ++ (([] : va_W))))))) (wc' := W_Hi G (sh a 48) q_8 ++ W_St G (sh a 1) v.1) (ws' := W_Fd G a h X (v.1, v.2.1, v.2.2.1, v.2.2.2.1, q_8)) hx hb hml hown hts hK hN hA hP hD hS (t_Hi_prepare l G (sh a 48) (sh a 1) v.2.2.2.2 v.1 q_8 hc_8) m_Hi_prepare k_241 ⟨Nat.le_of_ble_eq_true rfl, Nat.le_of_ble_eq_true rfl⟩ (pm_33 (O_Fd G a h) (W_St G (sh a 1) v.1) (W_St G (sh a 21) v.2.1) (W_Pd G (sh a 41) v.2.2.1) (W_Or G (sh a 43) v.2.2.2.1) (W_Hi G (sh a 48) v.2.2.2.2) X) (pm_33 (O_Fd G a h) (W_St G (sh a 1) v.1) (W_St G (sh a 21) v.2.1) (W_Pd G (sh a 41) v.2.2.1) (W_Or G (sh a 43) v.2.2.2.1) (W_Hi G (sh a 48) q_8) X).symm 1 0 rfl rfl rfl rfl rfl (Nat.le_of_ble_eq_true rfl) hl.1 d_Fd_write_8 ⟨Nat.zero_le _, Nat.zero_le _⟩ (fun H locs hP hD hS => ?_)
  refine lv_aload_n hx hb d_Fd_write_11 rfl (lv_at hl 0 rfl) ?_
  refine va_get (D := G.1) (ci := 8) (v := .ref (a 48)) (C := R_Fd) (T := T_Fd) (N := 6) hx hb hts in_Fd hown hK hP 0 rfl rfl 2 (by decide) (hts _ k_220) (fun _ h9 => h9) rfl d_Fd_write_12 ?_
  refine lv_aload_n hx hb d_Fd_write_15 rfl (lv_at hl 0 rfl) ?_
  refine va_get (D := G.1) (ci := 8) (v := .ref (a 1)) (C := R_Fd) (T := T_Fd) (N := 6) hx hb hts in_Fd hown hK hP 0 rfl rfl 0 (by decide) (hts _ k_218) (fun _ h9 => h9) rfl d_Fd_write_16 ?_
  refine lv_iload_n hx hb d_Fd_write_19 rfl (lv_at hl 1 rfl) ?_
  refine lv_iload_n hx hb d_Fd_write_20 rfl (lv_at hl 2 rfl) ?_
  refine lv_iload_n hx hb d_Fd_write_21 rfl (lv_at hl 3 rfl) ?_
  obtain ⟨q_22, hc_22, hf⟩ := oc_e hf
  refine kcV (cc := c_Fd_write) (own := "FloodDiary") (index := 59) (wc := W_St G (sh a 1) v.1) (wr := O_Fd G a h ++ (W_St G (sh a 21) v.2.1 ++ (W_Pd G (sh a 41) v.2.2.1 ++ (W_Or G (sh a 43) v.2.2.2.1 ++ (W_Hi G (sh a 48) q_8 ++ (X ++ (([] : va_W)))))))) (wc' := W_St G (sh a 1) q_22.2) (ws' := W_Fd G a h X (q_22.2, v.2.1, v.2.2.1, v.2.2.2.1, q_8)) hx hb hml hown hts hK hN hA hP hD hS (t_St_writePage l G (sh a 1) l1 l2 l3 v.1 q_22 hc_22) m_St_writePage k_306 ⟨Nat.le_of_ble_eq_true rfl, Nat.le_of_ble_eq_true rfl⟩ (pm_12 (O_Fd G a h) (W_St G (sh a 1) v.1) (W_St G (sh a 21) v.2.1) (W_Pd G (sh a 41) v.2.2.1) (W_Or G (sh a 43) v.2.2.2.1) (W_Hi G (sh a 48) q_8) X) (pm_12 (O_Fd G a h) (W_St G (sh a 1) q_22.2) (W_St G (sh a 21) v.2.1) (W_Pd G (sh a 41) v.2.2.1) (W_Or G (sh a 43) v.2.2.2.1) (W_Hi G (sh a 48) q_8) X).symm 6 0 rfl rfl rfl rfl rfl (Nat.le_of_ble_eq_true rfl) hl.1 d_Fd_write_22 ⟨Nat.zero_le _, Nat.zero_le _⟩ (fun H locs hP hD hS => ?_)
  obtain ⟨q_25, hc_25, hf⟩ := oc_e hf
  refine kcV (cc := c_Fd_write) (own := "FloodDiary") (index := 55) (wc := W_Hi G (sh a 48) q_8) (wr := O_Fd G a h ++ (W_St G (sh a 1) q_22.2 ++ (W_St G (sh a 21) v.2.1 ++ (W_Pd G (sh a 41) v.2.2.1 ++ (W_Or G (sh a 43) v.2.2.2.1 ++ (X ++ (([] : va_W)))))))) (wc' := W_Hi G (sh a 48) q_25.2) (ws' := W_Fd G a h X (q_22.2, v.2.1, v.2.2.1, v.2.2.2.1, q_25.2)) hx hb hml hown hts hK hN hA hP hD hS (t_Hi_record l G (sh a 48) q_22.1 q_8 q_25 hc_25) m_Hi_record k_298 ⟨Nat.le_of_ble_eq_true rfl, Nat.le_of_ble_eq_true rfl⟩ (pm_34 (O_Fd G a h) (W_St G (sh a 1) q_22.2) (W_St G (sh a 21) v.2.1) (W_Pd G (sh a 41) v.2.2.1) (W_Or G (sh a 43) v.2.2.2.1) (W_Hi G (sh a 48) q_8) X) (pm_34 (O_Fd G a h) (W_St G (sh a 1) q_22.2) (W_St G (sh a 21) v.2.1) (W_Pd G (sh a 41) v.2.2.1) (W_Or G (sh a 43) v.2.2.2.1) (W_Hi G (sh a 48) q_25.2) X).symm 1 0 rfl rfl rfl rfl rfl (Nat.le_of_ble_eq_true rfl) hl.1 d_Fd_write_25 ⟨Nat.zero_le _, Nat.zero_le _⟩ (fun H locs hP hD hS => ?_)
  cases hf
  exact kI hx hb hr hlk hP hD hS d_Fd_write_28
set_option maxHeartbeats 4000000 in
set_option maxRecDepth 100000 in
theorem t_Fd_finish (l : Launch) (G : GG) (a : Nat → Nat) (h : Nat) (X : va_W) (l1 : Int32) (v : V_Fd) (q : Int32 × V_Fd) (hf : f_Fd_finish l1 v = some q) : MI l G y_Fd_finish c_Fd_finish 2 (some .int) (rmk 4 92) (W_Fd G a h X v) [.ref (a 0), .int l1] (W_Fd G a h X q.2) (q.1) := by
  refine ofI "FloodDiary" (by decide +kernel) rfl (Nat.le_of_ble_eq_true rfl) (fun p e s m args below meth c A ls hx hb hr hml hown hts hlk hK hN hA hP hD hS hl => ?_)
  have hl : lv_has ls 2 [(0, .ref (a 0)), (1, .int l1)] := hl
  unfold f_Fd_finish at hf
  refine lv_aload_n hx hb d_Fd_finish_0 rfl (lv_at hl 0 rfl) ?_
  refine va_get (D := G.1) (ci := 8) (v := .ref (a 48)) (C := R_Fd) (T := T_Fd) (N := 6) hx hb hts in_Fd hown hK hP 0 rfl rfl 2 (by decide) (hts _ k_220) (fun _ h9 => h9) rfl d_Fd_finish_1 ?_
  refine lv_aload_n hx hb d_Fd_finish_4 rfl (lv_at hl 0 rfl) ?_
  refine va_get (D := G.1) (ci := 8) (v := .ref (a 1)) (C := R_Fd) (T := T_Fd) (N := 6) hx hb hts in_Fd hown hK hP 0 rfl rfl 0 (by decide) (hts _ k_218) (fun _ h9 => h9) rfl d_Fd_finish_5 ?_
  obtain ⟨q_8, hc_8, hf⟩ := oc_e hf
  refine kcVv (cc := c_Fd_finish) (own := "FloodDiary") (index := 47) (wc := W_Hi G (sh a 48) v.2.2.2.2 ++ W_St G (sh a 1) v.1) (wr := O_Fd G a h ++ (W_St G (sh a 21) v.2.1 ++ (W_Pd G (sh a 41) v.2.2.1 ++ (W_Or G (sh a 43) v.2.2.2.1 ++ (X ++ (([] : va_W))))))) (wc' := W_Hi G (sh a 48) q_8 ++ W_St G (sh a 1) v.1) (ws' := W_Fd G a h X (v.1, v.2.1, v.2.2.1, v.2.2.2.1, q_8)) hx hb hml hown hts hK hN hA hP hD hS (t_Hi_prepare l G (sh a 48) (sh a 1) v.2.2.2.2 v.1 q_8 hc_8) m_Hi_prepare k_241 ⟨Nat.le_of_ble_eq_true rfl, Nat.le_of_ble_eq_true rfl⟩ (pm_33 (O_Fd G a h) (W_St G (sh a 1) v.1) (W_St G (sh a 21) v.2.1) (W_Pd G (sh a 41) v.2.2.1) (W_Or G (sh a 43) v.2.2.2.1) (W_Hi G (sh a 48) v.2.2.2.2) X) (pm_33 (O_Fd G a h) (W_St G (sh a 1) v.1) (W_St G (sh a 21) v.2.1) (W_Pd G (sh a 41) v.2.2.1) (W_Or G (sh a 43) v.2.2.2.1) (W_Hi G (sh a 48) q_8) X).symm 1 0 rfl rfl rfl rfl rfl (Nat.le_of_ble_eq_true rfl) hl.1 d_Fd_finish_8 ⟨Nat.zero_le _, Nat.zero_le _⟩ (fun H locs hP hD hS => ?_)
  refine lv_aload_n hx hb d_Fd_finish_11 rfl (lv_at hl 0 rfl) ?_
  refine va_get (D := G.1) (ci := 8) (v := .ref (a 48)) (C := R_Fd) (T := T_Fd) (N := 6) hx hb hts in_Fd hown hK hP 0 rfl rfl 2 (by decide) (hts _ k_220) (fun _ h9 => h9) rfl d_Fd_finish_12 ?_
  refine lv_aload_n hx hb d_Fd_finish_15 rfl (lv_at hl 0 rfl) ?_
  refine va_get (D := G.1) (ci := 8) (v := .ref (a 1)) (C := R_Fd) (T := T_Fd) (N := 6) hx hb hts in_Fd hown hK hP 0 rfl rfl 0 (by decide) (hts _ k_218) (fun _ h9 => h9) rfl d_Fd_finish_16 ?_
  refine lv_iload_n hx hb d_Fd_finish_19 rfl (lv_at hl 1 rfl) ?_
  obtain ⟨q_20, hc_20, hf⟩ := oc_e hf
  refine kcV (cc := c_Fd_finish) (own := "FloodDiary") (index := 63) (wc := W_St G (sh a 1) v.1) (wr := O_Fd G a h ++ (W_St G (sh a 21) v.2.1 ++ (W_Pd G (sh a 41) v.2.2.1 ++ (W_Or G (sh a 43) v.2.2.2.1 ++ (W_Hi G (sh a 48) q_8 ++ (X ++ (([] : va_W)))))))) (wc' := W_St G (sh a 1) q_20.2) (ws' := W_Fd G a h X (q_20.2, v.2.1, v.2.2.1, v.2.2.2.1, q_8)) hx hb hml hown hts hK hN hA hP hD hS (t_St_finishWork l G (sh a 1) l1 v.1 q_20 hc_20) m_St_finishWork k_362 ⟨Nat.le_of_ble_eq_true rfl, Nat.le_of_ble_eq_true rfl⟩ (pm_12 (O_Fd G a h) (W_St G (sh a 1) v.1) (W_St G (sh a 21) v.2.1) (W_Pd G (sh a 41) v.2.2.1) (W_Or G (sh a 43) v.2.2.2.1) (W_Hi G (sh a 48) q_8) X) (pm_12 (O_Fd G a h) (W_St G (sh a 1) q_20.2) (W_St G (sh a 21) v.2.1) (W_Pd G (sh a 41) v.2.2.1) (W_Or G (sh a 43) v.2.2.2.1) (W_Hi G (sh a 48) q_8) X).symm 6 0 rfl rfl rfl rfl rfl (Nat.le_of_ble_eq_true rfl) hl.1 d_Fd_finish_20 ⟨Nat.zero_le _, Nat.zero_le _⟩ (fun H locs hP hD hS => ?_)
  obtain ⟨q_23, hc_23, hf⟩ := oc_e hf
  refine kcV (cc := c_Fd_finish) (own := "FloodDiary") (index := 55) (wc := W_Hi G (sh a 48) q_8) (wr := O_Fd G a h ++ (W_St G (sh a 1) q_20.2 ++ (W_St G (sh a 21) v.2.1 ++ (W_Pd G (sh a 41) v.2.2.1 ++ (W_Or G (sh a 43) v.2.2.2.1 ++ (X ++ (([] : va_W)))))))) (wc' := W_Hi G (sh a 48) q_23.2) (ws' := W_Fd G a h X (q_20.2, v.2.1, v.2.2.1, v.2.2.2.1, q_23.2)) hx hb hml hown hts hK hN hA hP hD hS (t_Hi_record l G (sh a 48) q_20.1 q_8 q_23 hc_23) m_Hi_record k_298 ⟨Nat.le_of_ble_eq_true rfl, Nat.le_of_ble_eq_true rfl⟩ (pm_34 (O_Fd G a h) (W_St G (sh a 1) q_20.2) (W_St G (sh a 21) v.2.1) (W_Pd G (sh a 41) v.2.2.1) (W_Or G (sh a 43) v.2.2.2.1) (W_Hi G (sh a 48) q_8) X) (pm_34 (O_Fd G a h) (W_St G (sh a 1) q_20.2) (W_St G (sh a 21) v.2.1) (W_Pd G (sh a 41) v.2.2.1) (W_Or G (sh a 43) v.2.2.2.1) (W_Hi G (sh a 48) q_23.2) X).symm 1 0 rfl rfl rfl rfl rfl (Nat.le_of_ble_eq_true rfl) hl.1 d_Fd_finish_23 ⟨Nat.zero_le _, Nat.zero_le _⟩ (fun H locs hP hD hS => ?_)
  cases hf
  exact kI hx hb hr hlk hP hD hS d_Fd_finish_26
set_option maxHeartbeats 4000000 in
set_option maxRecDepth 100000 in
theorem t_Fd_tear (l : Launch) (G : GG) (a : Nat → Nat) (h : Nat) (X : va_W) (l1 : Int32) (v : V_Fd) (q : Int32 × V_Fd) (hf : f_Fd_tear l1 v = some q) : MI l G y_Fd_tear c_Fd_tear 2 (some .int) (rmk 5 119) (W_Fd G a h X v) [.ref (a 0), .int l1] (W_Fd G a h X q.2) (q.1) := by
  refine ofI "FloodDiary" (by decide +kernel) rfl (Nat.le_of_ble_eq_true rfl) (fun p e s m args below meth c A ls hx hb hr hml hown hts hlk hK hN hA hP hD hS hl => ?_)
  have hl : lv_has ls 2 [(0, .ref (a 0)), (1, .int l1)] := hl
  unfold f_Fd_tear at hf
  refine lv_aload_n hx hb d_Fd_tear_0 rfl (lv_at hl 0 rfl) ?_
  refine va_get (D := G.1) (ci := 8) (v := .ref (a 48)) (C := R_Fd) (T := T_Fd) (N := 6) hx hb hts in_Fd hown hK hP 0 rfl rfl 2 (by decide) (hts _ k_220) (fun _ h9 => h9) rfl d_Fd_tear_1 ?_
  refine lv_aload_n hx hb d_Fd_tear_4 rfl (lv_at hl 0 rfl) ?_
  refine va_get (D := G.1) (ci := 8) (v := .ref (a 1)) (C := R_Fd) (T := T_Fd) (N := 6) hx hb hts in_Fd hown hK hP 0 rfl rfl 0 (by decide) (hts _ k_218) (fun _ h9 => h9) rfl d_Fd_tear_5 ?_
  obtain ⟨q_8, hc_8, hf⟩ := oc_e hf
  refine kcVv (cc := c_Fd_tear) (own := "FloodDiary") (index := 47) (wc := W_Hi G (sh a 48) v.2.2.2.2 ++ W_St G (sh a 1) v.1) (wr := O_Fd G a h ++ (W_St G (sh a 21) v.2.1 ++ (W_Pd G (sh a 41) v.2.2.1 ++ (W_Or G (sh a 43) v.2.2.2.1 ++ (X ++ (([] : va_W))))))) (wc' := W_Hi G (sh a 48) q_8 ++ W_St G (sh a 1) v.1) (ws' := W_Fd G a h X (v.1, v.2.1, v.2.2.1, v.2.2.2.1, q_8)) hx hb hml hown hts hK hN hA hP hD hS (t_Hi_prepare l G (sh a 48) (sh a 1) v.2.2.2.2 v.1 q_8 hc_8) m_Hi_prepare k_241 ⟨Nat.le_of_ble_eq_true rfl, Nat.le_of_ble_eq_true rfl⟩ (pm_33 (O_Fd G a h) (W_St G (sh a 1) v.1) (W_St G (sh a 21) v.2.1) (W_Pd G (sh a 41) v.2.2.1) (W_Or G (sh a 43) v.2.2.2.1) (W_Hi G (sh a 48) v.2.2.2.2) X) (pm_33 (O_Fd G a h) (W_St G (sh a 1) v.1) (W_St G (sh a 21) v.2.1) (W_Pd G (sh a 41) v.2.2.1) (W_Or G (sh a 43) v.2.2.2.1) (W_Hi G (sh a 48) q_8) X).symm 1 0 rfl rfl rfl rfl rfl (Nat.le_of_ble_eq_true rfl) hl.1 d_Fd_tear_8 ⟨Nat.zero_le _, Nat.zero_le _⟩ (fun H locs hP hD hS => ?_)
  refine lv_aload_n hx hb d_Fd_tear_11 rfl (lv_at hl 0 rfl) ?_
  refine va_get (D := G.1) (ci := 8) (v := .ref (a 48)) (C := R_Fd) (T := T_Fd) (N := 6) hx hb hts in_Fd hown hK hP 0 rfl rfl 2 (by decide) (hts _ k_220) (fun _ h9 => h9) rfl d_Fd_tear_12 ?_
  refine lv_aload_n hx hb d_Fd_tear_15 rfl (lv_at hl 0 rfl) ?_
  refine va_get (D := G.1) (ci := 8) (v := .ref (a 1)) (C := R_Fd) (T := T_Fd) (N := 6) hx hb hts in_Fd hown hK hP 0 rfl rfl 0 (by decide) (hts _ k_218) (fun _ h9 => h9) rfl d_Fd_tear_16 ?_
  refine lv_iload_n hx hb d_Fd_tear_19 rfl (lv_at hl 1 rfl) ?_
  obtain ⟨q_20, hc_20, hf⟩ := oc_e hf
  refine kcV (cc := c_Fd_tear) (own := "FloodDiary") (index := 66) (wc := W_St G (sh a 1) v.1) (wr := O_Fd G a h ++ (W_St G (sh a 21) v.2.1 ++ (W_Pd G (sh a 41) v.2.2.1 ++ (W_Or G (sh a 43) v.2.2.2.1 ++ (W_Hi G (sh a 48) q_8 ++ (X ++ (([] : va_W)))))))) (wc' := W_St G (sh a 1) q_20.2) (ws' := W_Fd G a h X (q_20.2, v.2.1, v.2.2.1, v.2.2.2.1, q_8)) hx hb hml hown hts hK hN hA hP hD hS (t_St_tearWork l G (sh a 1) l1 v.1 q_20 hc_20) m_St_tearWork k_377 ⟨Nat.le_of_ble_eq_true rfl, Nat.le_of_ble_eq_true rfl⟩ (pm_12 (O_Fd G a h) (W_St G (sh a 1) v.1) (W_St G (sh a 21) v.2.1) (W_Pd G (sh a 41) v.2.2.1) (W_Or G (sh a 43) v.2.2.2.1) (W_Hi G (sh a 48) q_8) X) (pm_12 (O_Fd G a h) (W_St G (sh a 1) q_20.2) (W_St G (sh a 21) v.2.1) (W_Pd G (sh a 41) v.2.2.1) (W_Or G (sh a 43) v.2.2.2.1) (W_Hi G (sh a 48) q_8) X).symm 6 0 rfl rfl rfl rfl rfl (Nat.le_of_ble_eq_true rfl) hl.1 d_Fd_tear_20 ⟨Nat.zero_le _, Nat.zero_le _⟩ (fun H locs hP hD hS => ?_)
  obtain ⟨q_23, hc_23, hf⟩ := oc_e hf
  refine kcV (cc := c_Fd_tear) (own := "FloodDiary") (index := 55) (wc := W_Hi G (sh a 48) q_8) (wr := O_Fd G a h ++ (W_St G (sh a 1) q_20.2 ++ (W_St G (sh a 21) v.2.1 ++ (W_Pd G (sh a 41) v.2.2.1 ++ (W_Or G (sh a 43) v.2.2.2.1 ++ (X ++ (([] : va_W)))))))) (wc' := W_Hi G (sh a 48) q_23.2) (ws' := W_Fd G a h X (q_20.2, v.2.1, v.2.2.1, v.2.2.2.1, q_23.2)) hx hb hml hown hts hK hN hA hP hD hS (t_Hi_record l G (sh a 48) q_20.1 q_8 q_23 hc_23) m_Hi_record k_298 ⟨Nat.le_of_ble_eq_true rfl, Nat.le_of_ble_eq_true rfl⟩ (pm_34 (O_Fd G a h) (W_St G (sh a 1) q_20.2) (W_St G (sh a 21) v.2.1) (W_Pd G (sh a 41) v.2.2.1) (W_Or G (sh a 43) v.2.2.2.1) (W_Hi G (sh a 48) q_8) X) (pm_34 (O_Fd G a h) (W_St G (sh a 1) q_20.2) (W_St G (sh a 21) v.2.1) (W_Pd G (sh a 41) v.2.2.1) (W_Or G (sh a 43) v.2.2.2.1) (W_Hi G (sh a 48) q_23.2) X).symm 1 0 rfl rfl rfl rfl rfl (Nat.le_of_ble_eq_true rfl) hl.1 d_Fd_tear_23 ⟨Nat.zero_le _, Nat.zero_le _⟩ (fun H locs hP hD hS => ?_)
  cases hf
  exact kI hx hb hr hlk hP hD hS d_Fd_tear_26
set_option maxHeartbeats 4000000 in
set_option maxRecDepth 100000 in
theorem t_Fd_save (l : Launch) (G : GG) (a : Nat → Nat) (h : Nat) (X : va_W) (l1 : Int32) (v : V_Fd) (q : Int32 × V_Fd) (hf : f_Fd_save l1 v = some q) : MI l G y_Fd_save c_Fd_save 2 (some .int) (rmk 4 83) (W_Fd G a h X v) [.ref (a 0), .int l1] (W_Fd G a h X q.2) (q.1) := by
  refine ofI "FloodDiary" (by decide +kernel) rfl (Nat.le_of_ble_eq_true rfl) (fun p e s m args below meth c A ls hx hb hr hml hown hts hlk hK hN hA hP hD hS hl => ?_)
  have hl : lv_has ls 2 [(0, .ref (a 0)), (1, .int l1)] := hl
  unfold f_Fd_save at hf
  refine lv_aload_n hx hb d_Fd_save_0 rfl (lv_at hl 0 rfl) ?_
  refine va_get (D := G.1) (ci := 8) (v := .ref (a 48)) (C := R_Fd) (T := T_Fd) (N := 6) hx hb hts in_Fd hown hK hP 0 rfl rfl 2 (by decide) (hts _ k_220) (fun _ h9 => h9) rfl d_Fd_save_1 ?_
  refine lv_aload_n hx hb d_Fd_save_4 rfl (lv_at hl 0 rfl) ?_
  refine va_get (D := G.1) (ci := 8) (v := .ref (a 1)) (C := R_Fd) (T := T_Fd) (N := 6) hx hb hts in_Fd hown hK hP 0 rfl rfl 0 (by decide) (hts _ k_218) (fun _ h9 => h9) rfl d_Fd_save_5 ?_
  obtain ⟨q_8, hc_8, hf⟩ := oc_e hf
  refine kcVv (cc := c_Fd_save) (own := "FloodDiary") (index := 47) (wc := W_Hi G (sh a 48) v.2.2.2.2 ++ W_St G (sh a 1) v.1) (wr := O_Fd G a h ++ (W_St G (sh a 21) v.2.1 ++ (W_Pd G (sh a 41) v.2.2.1 ++ (W_Or G (sh a 43) v.2.2.2.1 ++ (X ++ (([] : va_W))))))) (wc' := W_Hi G (sh a 48) q_8 ++ W_St G (sh a 1) v.1) (ws' := W_Fd G a h X (v.1, v.2.1, v.2.2.1, v.2.2.2.1, q_8)) hx hb hml hown hts hK hN hA hP hD hS (t_Hi_prepare l G (sh a 48) (sh a 1) v.2.2.2.2 v.1 q_8 hc_8) m_Hi_prepare k_241 ⟨Nat.le_of_ble_eq_true rfl, Nat.le_of_ble_eq_true rfl⟩ (pm_33 (O_Fd G a h) (W_St G (sh a 1) v.1) (W_St G (sh a 21) v.2.1) (W_Pd G (sh a 41) v.2.2.1) (W_Or G (sh a 43) v.2.2.2.1) (W_Hi G (sh a 48) v.2.2.2.2) X) (pm_33 (O_Fd G a h) (W_St G (sh a 1) v.1) (W_St G (sh a 21) v.2.1) (W_Pd G (sh a 41) v.2.2.1) (W_Or G (sh a 43) v.2.2.2.1) (W_Hi G (sh a 48) q_8) X).symm 1 0 rfl rfl rfl rfl rfl (Nat.le_of_ble_eq_true rfl) hl.1 d_Fd_save_8 ⟨Nat.zero_le _, Nat.zero_le _⟩ (fun H locs hP hD hS => ?_)
  refine lv_aload_n hx hb d_Fd_save_11 rfl (lv_at hl 0 rfl) ?_
  refine va_get (D := G.1) (ci := 8) (v := .ref (a 48)) (C := R_Fd) (T := T_Fd) (N := 6) hx hb hts in_Fd hown hK hP 0 rfl rfl 2 (by decide) (hts _ k_220) (fun _ h9 => h9) rfl d_Fd_save_12 ?_
  refine lv_aload_n hx hb d_Fd_save_15 rfl (lv_at hl 0 rfl) ?_
  refine va_get (D := G.1) (ci := 8) (v := .ref (a 1)) (C := R_Fd) (T := T_Fd) (N := 6) hx hb hts in_Fd hown hK hP 0 rfl rfl 0 (by decide) (hts _ k_218) (fun _ h9 => h9) rfl d_Fd_save_16 ?_
  refine lv_iload_n hx hb d_Fd_save_19 rfl (lv_at hl 1 rfl) ?_
  obtain ⟨q_20, hc_20, hf⟩ := oc_e hf
  refine kcV (cc := c_Fd_save) (own := "FloodDiary") (index := 69) (wc := W_St G (sh a 1) v.1) (wr := O_Fd G a h ++ (W_St G (sh a 21) v.2.1 ++ (W_Pd G (sh a 41) v.2.2.1 ++ (W_Or G (sh a 43) v.2.2.2.1 ++ (W_Hi G (sh a 48) q_8 ++ (X ++ (([] : va_W)))))))) (wc' := W_St G (sh a 1) q_20.2) (ws' := W_Fd G a h X (q_20.2, v.2.1, v.2.2.1, v.2.2.2.1, q_8)) hx hb hml hown hts hK hN hA hP hD hS (t_St_saveEntries l G (sh a 1) l1 v.1 q_20 hc_20) m_St_saveEntries k_413 ⟨Nat.le_of_ble_eq_true rfl, Nat.le_of_ble_eq_true rfl⟩ (pm_12 (O_Fd G a h) (W_St G (sh a 1) v.1) (W_St G (sh a 21) v.2.1) (W_Pd G (sh a 41) v.2.2.1) (W_Or G (sh a 43) v.2.2.2.1) (W_Hi G (sh a 48) q_8) X) (pm_12 (O_Fd G a h) (W_St G (sh a 1) q_20.2) (W_St G (sh a 21) v.2.1) (W_Pd G (sh a 41) v.2.2.1) (W_Or G (sh a 43) v.2.2.2.1) (W_Hi G (sh a 48) q_8) X).symm 6 0 rfl rfl rfl rfl rfl (Nat.le_of_ble_eq_true rfl) hl.1 d_Fd_save_20 ⟨Nat.zero_le _, Nat.zero_le _⟩ (fun H locs hP hD hS => ?_)
  obtain ⟨q_23, hc_23, hf⟩ := oc_e hf
  refine kcV (cc := c_Fd_save) (own := "FloodDiary") (index := 55) (wc := W_Hi G (sh a 48) q_8) (wr := O_Fd G a h ++ (W_St G (sh a 1) q_20.2 ++ (W_St G (sh a 21) v.2.1 ++ (W_Pd G (sh a 41) v.2.2.1 ++ (W_Or G (sh a 43) v.2.2.2.1 ++ (X ++ (([] : va_W)))))))) (wc' := W_Hi G (sh a 48) q_23.2) (ws' := W_Fd G a h X (q_20.2, v.2.1, v.2.2.1, v.2.2.2.1, q_23.2)) hx hb hml hown hts hK hN hA hP hD hS (t_Hi_record l G (sh a 48) q_20.1 q_8 q_23 hc_23) m_Hi_record k_298 ⟨Nat.le_of_ble_eq_true rfl, Nat.le_of_ble_eq_true rfl⟩ (pm_34 (O_Fd G a h) (W_St G (sh a 1) q_20.2) (W_St G (sh a 21) v.2.1) (W_Pd G (sh a 41) v.2.2.1) (W_Or G (sh a 43) v.2.2.2.1) (W_Hi G (sh a 48) q_8) X) (pm_34 (O_Fd G a h) (W_St G (sh a 1) q_20.2) (W_St G (sh a 21) v.2.1) (W_Pd G (sh a 41) v.2.2.1) (W_Or G (sh a 43) v.2.2.2.1) (W_Hi G (sh a 48) q_23.2) X).symm 1 0 rfl rfl rfl rfl rfl (Nat.le_of_ble_eq_true rfl) hl.1 d_Fd_save_23 ⟨Nat.zero_le _, Nat.zero_le _⟩ (fun H locs hP hD hS => ?_)
  cases hf
  exact kI hx hb hr hlk hP hD hS d_Fd_save_26
set_option maxHeartbeats 4000000 in
set_option maxRecDepth 100000 in
theorem t_Fd_putAway (l : Launch) (G : GG) (a : Nat → Nat) (h : Nat) (X : va_W) (l1 : Int32) (v : V_Fd) (q : Int32 × V_Fd) (hf : f_Fd_putAway l1 v = some q) : MI l G y_Fd_putAway c_Fd_putAway 2 (some .int) (rmk 4 83) (W_Fd G a h X v) [.ref (a 0), .int l1] (W_Fd G a h X q.2) (q.1) := by
  refine ofI "FloodDiary" (by decide +kernel) rfl (Nat.le_of_ble_eq_true rfl) (fun p e s m args below meth c A ls hx hb hr hml hown hts hlk hK hN hA hP hD hS hl => ?_)
  have hl : lv_has ls 2 [(0, .ref (a 0)), (1, .int l1)] := hl
  unfold f_Fd_putAway at hf
  refine lv_aload_n hx hb d_Fd_putAway_0 rfl (lv_at hl 0 rfl) ?_
  refine va_get (D := G.1) (ci := 8) (v := .ref (a 48)) (C := R_Fd) (T := T_Fd) (N := 6) hx hb hts in_Fd hown hK hP 0 rfl rfl 2 (by decide) (hts _ k_220) (fun _ h9 => h9) rfl d_Fd_putAway_1 ?_
  refine lv_aload_n hx hb d_Fd_putAway_4 rfl (lv_at hl 0 rfl) ?_
  refine va_get (D := G.1) (ci := 8) (v := .ref (a 1)) (C := R_Fd) (T := T_Fd) (N := 6) hx hb hts in_Fd hown hK hP 0 rfl rfl 0 (by decide) (hts _ k_218) (fun _ h9 => h9) rfl d_Fd_putAway_5 ?_
  obtain ⟨q_8, hc_8, hf⟩ := oc_e hf
  refine kcVv (cc := c_Fd_putAway) (own := "FloodDiary") (index := 47) (wc := W_Hi G (sh a 48) v.2.2.2.2 ++ W_St G (sh a 1) v.1) (wr := O_Fd G a h ++ (W_St G (sh a 21) v.2.1 ++ (W_Pd G (sh a 41) v.2.2.1 ++ (W_Or G (sh a 43) v.2.2.2.1 ++ (X ++ (([] : va_W))))))) (wc' := W_Hi G (sh a 48) q_8 ++ W_St G (sh a 1) v.1) (ws' := W_Fd G a h X (v.1, v.2.1, v.2.2.1, v.2.2.2.1, q_8)) hx hb hml hown hts hK hN hA hP hD hS (t_Hi_prepare l G (sh a 48) (sh a 1) v.2.2.2.2 v.1 q_8 hc_8) m_Hi_prepare k_241 ⟨Nat.le_of_ble_eq_true rfl, Nat.le_of_ble_eq_true rfl⟩ (pm_33 (O_Fd G a h) (W_St G (sh a 1) v.1) (W_St G (sh a 21) v.2.1) (W_Pd G (sh a 41) v.2.2.1) (W_Or G (sh a 43) v.2.2.2.1) (W_Hi G (sh a 48) v.2.2.2.2) X) (pm_33 (O_Fd G a h) (W_St G (sh a 1) v.1) (W_St G (sh a 21) v.2.1) (W_Pd G (sh a 41) v.2.2.1) (W_Or G (sh a 43) v.2.2.2.1) (W_Hi G (sh a 48) q_8) X).symm 1 0 rfl rfl rfl rfl rfl (Nat.le_of_ble_eq_true rfl) hl.1 d_Fd_putAway_8 ⟨Nat.zero_le _, Nat.zero_le _⟩ (fun H locs hP hD hS => ?_)
  refine lv_aload_n hx hb d_Fd_putAway_11 rfl (lv_at hl 0 rfl) ?_
  refine va_get (D := G.1) (ci := 8) (v := .ref (a 48)) (C := R_Fd) (T := T_Fd) (N := 6) hx hb hts in_Fd hown hK hP 0 rfl rfl 2 (by decide) (hts _ k_220) (fun _ h9 => h9) rfl d_Fd_putAway_12 ?_
  refine lv_aload_n hx hb d_Fd_putAway_15 rfl (lv_at hl 0 rfl) ?_
  refine va_get (D := G.1) (ci := 8) (v := .ref (a 1)) (C := R_Fd) (T := T_Fd) (N := 6) hx hb hts in_Fd hown hK hP 0 rfl rfl 0 (by decide) (hts _ k_218) (fun _ h9 => h9) rfl d_Fd_putAway_16 ?_
  refine lv_iload_n hx hb d_Fd_putAway_19 rfl (lv_at hl 1 rfl) ?_
  obtain ⟨q_20, hc_20, hf⟩ := oc_e hf
  refine kcV (cc := c_Fd_putAway) (own := "FloodDiary") (index := 72) (wc := W_St G (sh a 1) v.1) (wr := O_Fd G a h ++ (W_St G (sh a 21) v.2.1 ++ (W_Pd G (sh a 41) v.2.2.1 ++ (W_Or G (sh a 43) v.2.2.2.1 ++ (W_Hi G (sh a 48) q_8 ++ (X ++ (([] : va_W)))))))) (wc' := W_St G (sh a 1) q_20.2) (ws' := W_Fd G a h X (q_20.2, v.2.1, v.2.2.1, v.2.2.2.1, q_8)) hx hb hml hown hts hK hN hA hP hD hS (t_St_shelvePage l G (sh a 1) l1 v.1 q_20 hc_20) m_St_shelvePage k_422 ⟨Nat.le_of_ble_eq_true rfl, Nat.le_of_ble_eq_true rfl⟩ (pm_12 (O_Fd G a h) (W_St G (sh a 1) v.1) (W_St G (sh a 21) v.2.1) (W_Pd G (sh a 41) v.2.2.1) (W_Or G (sh a 43) v.2.2.2.1) (W_Hi G (sh a 48) q_8) X) (pm_12 (O_Fd G a h) (W_St G (sh a 1) q_20.2) (W_St G (sh a 21) v.2.1) (W_Pd G (sh a 41) v.2.2.1) (W_Or G (sh a 43) v.2.2.2.1) (W_Hi G (sh a 48) q_8) X).symm 6 0 rfl rfl rfl rfl rfl (Nat.le_of_ble_eq_true rfl) hl.1 d_Fd_putAway_20 ⟨Nat.zero_le _, Nat.zero_le _⟩ (fun H locs hP hD hS => ?_)
  obtain ⟨q_23, hc_23, hf⟩ := oc_e hf
  refine kcV (cc := c_Fd_putAway) (own := "FloodDiary") (index := 55) (wc := W_Hi G (sh a 48) q_8) (wr := O_Fd G a h ++ (W_St G (sh a 1) q_20.2 ++ (W_St G (sh a 21) v.2.1 ++ (W_Pd G (sh a 41) v.2.2.1 ++ (W_Or G (sh a 43) v.2.2.2.1 ++ (X ++ (([] : va_W)))))))) (wc' := W_Hi G (sh a 48) q_23.2) (ws' := W_Fd G a h X (q_20.2, v.2.1, v.2.2.1, v.2.2.2.1, q_23.2)) hx hb hml hown hts hK hN hA hP hD hS (t_Hi_record l G (sh a 48) q_20.1 q_8 q_23 hc_23) m_Hi_record k_298 ⟨Nat.le_of_ble_eq_true rfl, Nat.le_of_ble_eq_true rfl⟩ (pm_34 (O_Fd G a h) (W_St G (sh a 1) q_20.2) (W_St G (sh a 21) v.2.1) (W_Pd G (sh a 41) v.2.2.1) (W_Or G (sh a 43) v.2.2.2.1) (W_Hi G (sh a 48) q_8) X) (pm_34 (O_Fd G a h) (W_St G (sh a 1) q_20.2) (W_St G (sh a 21) v.2.1) (W_Pd G (sh a 41) v.2.2.1) (W_Or G (sh a 43) v.2.2.2.1) (W_Hi G (sh a 48) q_23.2) X).symm 1 0 rfl rfl rfl rfl rfl (Nat.le_of_ble_eq_true rfl) hl.1 d_Fd_putAway_23 ⟨Nat.zero_le _, Nat.zero_le _⟩ (fun H locs hP hD hS => ?_)
  cases hf
  exact kI hx hb hr hlk hP hD hS d_Fd_putAway_26
set_option maxHeartbeats 4000000 in
set_option maxRecDepth 100000 in
theorem t_Fd_flood (l : Launch) (G : GG) (a : Nat → Nat) (h : Nat) (X : va_W) (v : V_Fd) (q : Int32 × V_Fd) (hf : f_Fd_flood v = some q) : MI l G y_Fd_flood c_Fd_flood 1 (some .int) (rmk 5 111) (W_Fd G a h X v) [.ref (a 0)] (W_Fd G a h X q.2) (q.1) := by
  refine ofI "FloodDiary" (by decide +kernel) rfl (Nat.le_of_ble_eq_true rfl) (fun p e s m args below meth c A ls hx hb hr hml hown hts hlk hK hN hA hP hD hS hl => ?_)
  have hl : lv_has ls 1 [(0, .ref (a 0))] := hl
  unfold f_Fd_flood at hf
  refine lv_aload_n hx hb d_Fd_flood_0 rfl (lv_at hl 0 rfl) ?_
  refine va_get (D := G.1) (ci := 8) (v := .ref (a 48)) (C := R_Fd) (T := T_Fd) (N := 6) hx hb hts in_Fd hown hK hP 0 rfl rfl 2 (by decide) (hts _ k_220) (fun _ h9 => h9) rfl d_Fd_flood_1 ?_
  refine lv_aload_n hx hb d_Fd_flood_4 rfl (lv_at hl 0 rfl) ?_
  refine va_get (D := G.1) (ci := 8) (v := .ref (a 1)) (C := R_Fd) (T := T_Fd) (N := 6) hx hb hts in_Fd hown hK hP 0 rfl rfl 0 (by decide) (hts _ k_218) (fun _ h9 => h9) rfl d_Fd_flood_5 ?_
  obtain ⟨q_8, hc_8, hf⟩ := oc_e hf
  refine kcVv (cc := c_Fd_flood) (own := "FloodDiary") (index := 47) (wc := W_Hi G (sh a 48) v.2.2.2.2 ++ W_St G (sh a 1) v.1) (wr := O_Fd G a h ++ (W_St G (sh a 21) v.2.1 ++ (W_Pd G (sh a 41) v.2.2.1 ++ (W_Or G (sh a 43) v.2.2.2.1 ++ (X ++ (([] : va_W))))))) (wc' := W_Hi G (sh a 48) q_8 ++ W_St G (sh a 1) v.1) (ws' := W_Fd G a h X (v.1, v.2.1, v.2.2.1, v.2.2.2.1, q_8)) hx hb hml hown hts hK hN hA hP hD hS (t_Hi_prepare l G (sh a 48) (sh a 1) v.2.2.2.2 v.1 q_8 hc_8) m_Hi_prepare k_241 ⟨Nat.le_of_ble_eq_true rfl, Nat.le_of_ble_eq_true rfl⟩ (pm_33 (O_Fd G a h) (W_St G (sh a 1) v.1) (W_St G (sh a 21) v.2.1) (W_Pd G (sh a 41) v.2.2.1) (W_Or G (sh a 43) v.2.2.2.1) (W_Hi G (sh a 48) v.2.2.2.2) X) (pm_33 (O_Fd G a h) (W_St G (sh a 1) v.1) (W_St G (sh a 21) v.2.1) (W_Pd G (sh a 41) v.2.2.1) (W_Or G (sh a 43) v.2.2.2.1) (W_Hi G (sh a 48) q_8) X).symm 1 0 rfl rfl rfl rfl rfl (Nat.le_of_ble_eq_true rfl) hl.1 d_Fd_flood_8 ⟨Nat.zero_le _, Nat.zero_le _⟩ (fun H locs hP hD hS => ?_)
  refine lv_aload_n hx hb d_Fd_flood_11 rfl (lv_at hl 0 rfl) ?_
  refine va_get (D := G.1) (ci := 8) (v := .ref (a 48)) (C := R_Fd) (T := T_Fd) (N := 6) hx hb hts in_Fd hown hK hP 0 rfl rfl 2 (by decide) (hts _ k_220) (fun _ h9 => h9) rfl d_Fd_flood_12 ?_
  refine lv_aload_n hx hb d_Fd_flood_15 rfl (lv_at hl 0 rfl) ?_
  refine va_get (D := G.1) (ci := 8) (v := .ref (a 1)) (C := R_Fd) (T := T_Fd) (N := 6) hx hb hts in_Fd hown hK hP 0 rfl rfl 0 (by decide) (hts _ k_218) (fun _ h9 => h9) rfl d_Fd_flood_16 ?_
  obtain ⟨q_19, hc_19, hf⟩ := oc_e hf
  refine kcV (cc := c_Fd_flood) (own := "FloodDiary") (index := 75) (wc := W_St G (sh a 1) v.1) (wr := O_Fd G a h ++ (W_St G (sh a 21) v.2.1 ++ (W_Pd G (sh a 41) v.2.2.1 ++ (W_Or G (sh a 43) v.2.2.2.1 ++ (W_Hi G (sh a 48) q_8 ++ (X ++ (([] : va_W)))))))) (wc' := W_St G (sh a 1) q_19.2) (ws' := W_Fd G a h X (q_19.2, v.2.1, v.2.2.1, v.2.2.2.1, q_8)) hx hb hml hown hts hK hN hA hP hD hS (t_St_takeFlood l G (sh a 1) v.1 q_19 hc_19) m_St_takeFlood k_439 ⟨Nat.le_of_ble_eq_true rfl, Nat.le_of_ble_eq_true rfl⟩ (pm_12 (O_Fd G a h) (W_St G (sh a 1) v.1) (W_St G (sh a 21) v.2.1) (W_Pd G (sh a 41) v.2.2.1) (W_Or G (sh a 43) v.2.2.2.1) (W_Hi G (sh a 48) q_8) X) (pm_12 (O_Fd G a h) (W_St G (sh a 1) q_19.2) (W_St G (sh a 21) v.2.1) (W_Pd G (sh a 41) v.2.2.1) (W_Or G (sh a 43) v.2.2.2.1) (W_Hi G (sh a 48) q_8) X).symm 6 0 rfl rfl rfl rfl rfl (Nat.le_of_ble_eq_true rfl) hl.1 d_Fd_flood_19 ⟨Nat.zero_le _, Nat.zero_le _⟩ (fun H locs hP hD hS => ?_)
  obtain ⟨q_22, hc_22, hf⟩ := oc_e hf
  refine kcV (cc := c_Fd_flood) (own := "FloodDiary") (index := 55) (wc := W_Hi G (sh a 48) q_8) (wr := O_Fd G a h ++ (W_St G (sh a 1) q_19.2 ++ (W_St G (sh a 21) v.2.1 ++ (W_Pd G (sh a 41) v.2.2.1 ++ (W_Or G (sh a 43) v.2.2.2.1 ++ (X ++ (([] : va_W)))))))) (wc' := W_Hi G (sh a 48) q_22.2) (ws' := W_Fd G a h X (q_19.2, v.2.1, v.2.2.1, v.2.2.2.1, q_22.2)) hx hb hml hown hts hK hN hA hP hD hS (t_Hi_record l G (sh a 48) q_19.1 q_8 q_22 hc_22) m_Hi_record k_298 ⟨Nat.le_of_ble_eq_true rfl, Nat.le_of_ble_eq_true rfl⟩ (pm_34 (O_Fd G a h) (W_St G (sh a 1) q_19.2) (W_St G (sh a 21) v.2.1) (W_Pd G (sh a 41) v.2.2.1) (W_Or G (sh a 43) v.2.2.2.1) (W_Hi G (sh a 48) q_8) X) (pm_34 (O_Fd G a h) (W_St G (sh a 1) q_19.2) (W_St G (sh a 21) v.2.1) (W_Pd G (sh a 41) v.2.2.1) (W_Or G (sh a 43) v.2.2.2.1) (W_Hi G (sh a 48) q_22.2) X).symm 1 0 rfl rfl rfl rfl rfl (Nat.le_of_ble_eq_true rfl) hl.1 d_Fd_flood_22 ⟨Nat.zero_le _, Nat.zero_le _⟩ (fun H locs hP hD hS => ?_)
  cases hf
  exact kI hx hb hr hlk hP hD hS d_Fd_flood_25
set_option maxHeartbeats 4000000 in
set_option maxRecDepth 100000 in
theorem t_Fd_blur (l : Launch) (G : GG) (a : Nat → Nat) (h : Nat) (X : va_W) (l1 : Int32) (v : V_Fd) (q : Int32 × V_Fd) (hf : f_Fd_blur l1 v = some q) : MI l G y_Fd_blur c_Fd_blur 2 (some .int) (rmk 5 112) (W_Fd G a h X v) [.ref (a 0), .int l1] (W_Fd G a h X q.2) (q.1) := by
  refine ofI "FloodDiary" (by decide +kernel) rfl (Nat.le_of_ble_eq_true rfl) (fun p e s m args below meth c A ls hx hb hr hml hown hts hlk hK hN hA hP hD hS hl => ?_)
  have hl : lv_has ls 2 [(0, .ref (a 0)), (1, .int l1)] := hl
  unfold f_Fd_blur at hf
  refine lv_aload_n hx hb d_Fd_blur_0 rfl (lv_at hl 0 rfl) ?_
  refine va_get (D := G.1) (ci := 8) (v := .ref (a 48)) (C := R_Fd) (T := T_Fd) (N := 6) hx hb hts in_Fd hown hK hP 0 rfl rfl 2 (by decide) (hts _ k_220) (fun _ h9 => h9) rfl d_Fd_blur_1 ?_
  refine lv_aload_n hx hb d_Fd_blur_4 rfl (lv_at hl 0 rfl) ?_
  refine va_get (D := G.1) (ci := 8) (v := .ref (a 1)) (C := R_Fd) (T := T_Fd) (N := 6) hx hb hts in_Fd hown hK hP 0 rfl rfl 0 (by decide) (hts _ k_218) (fun _ h9 => h9) rfl d_Fd_blur_5 ?_
  obtain ⟨q_8, hc_8, hf⟩ := oc_e hf
  refine kcVv (cc := c_Fd_blur) (own := "FloodDiary") (index := 47) (wc := W_Hi G (sh a 48) v.2.2.2.2 ++ W_St G (sh a 1) v.1) (wr := O_Fd G a h ++ (W_St G (sh a 21) v.2.1 ++ (W_Pd G (sh a 41) v.2.2.1 ++ (W_Or G (sh a 43) v.2.2.2.1 ++ (X ++ (([] : va_W))))))) (wc' := W_Hi G (sh a 48) q_8 ++ W_St G (sh a 1) v.1) (ws' := W_Fd G a h X (v.1, v.2.1, v.2.2.1, v.2.2.2.1, q_8)) hx hb hml hown hts hK hN hA hP hD hS (t_Hi_prepare l G (sh a 48) (sh a 1) v.2.2.2.2 v.1 q_8 hc_8) m_Hi_prepare k_241 ⟨Nat.le_of_ble_eq_true rfl, Nat.le_of_ble_eq_true rfl⟩ (pm_33 (O_Fd G a h) (W_St G (sh a 1) v.1) (W_St G (sh a 21) v.2.1) (W_Pd G (sh a 41) v.2.2.1) (W_Or G (sh a 43) v.2.2.2.1) (W_Hi G (sh a 48) v.2.2.2.2) X) (pm_33 (O_Fd G a h) (W_St G (sh a 1) v.1) (W_St G (sh a 21) v.2.1) (W_Pd G (sh a 41) v.2.2.1) (W_Or G (sh a 43) v.2.2.2.1) (W_Hi G (sh a 48) q_8) X).symm 1 0 rfl rfl rfl rfl rfl (Nat.le_of_ble_eq_true rfl) hl.1 d_Fd_blur_8 ⟨Nat.zero_le _, Nat.zero_le _⟩ (fun H locs hP hD hS => ?_)
  refine lv_aload_n hx hb d_Fd_blur_11 rfl (lv_at hl 0 rfl) ?_
  refine va_get (D := G.1) (ci := 8) (v := .ref (a 48)) (C := R_Fd) (T := T_Fd) (N := 6) hx hb hts in_Fd hown hK hP 0 rfl rfl 2 (by decide) (hts _ k_220) (fun _ h9 => h9) rfl d_Fd_blur_12 ?_
  refine lv_aload_n hx hb d_Fd_blur_15 rfl (lv_at hl 0 rfl) ?_
  refine va_get (D := G.1) (ci := 8) (v := .ref (a 1)) (C := R_Fd) (T := T_Fd) (N := 6) hx hb hts in_Fd hown hK hP 0 rfl rfl 0 (by decide) (hts _ k_218) (fun _ h9 => h9) rfl d_Fd_blur_16 ?_
  refine lv_iload_n hx hb d_Fd_blur_19 rfl (lv_at hl 1 rfl) ?_
  obtain ⟨q_20, hc_20, hf⟩ := oc_e hf
  refine kcV (cc := c_Fd_blur) (own := "FloodDiary") (index := 78) (wc := W_St G (sh a 1) v.1) (wr := O_Fd G a h ++ (W_St G (sh a 21) v.2.1 ++ (W_Pd G (sh a 41) v.2.2.1 ++ (W_Or G (sh a 43) v.2.2.2.1 ++ (W_Hi G (sh a 48) q_8 ++ (X ++ (([] : va_W)))))))) (wc' := W_St G (sh a 1) q_20.2) (ws' := W_Fd G a h X (q_20.2, v.2.1, v.2.2.1, v.2.2.2.1, q_8)) hx hb hml hown hts hK hN hA hP hD hS (t_St_blurEntries l G (sh a 1) l1 v.1 q_20 hc_20) m_St_blurEntries k_477 ⟨Nat.le_of_ble_eq_true rfl, Nat.le_of_ble_eq_true rfl⟩ (pm_12 (O_Fd G a h) (W_St G (sh a 1) v.1) (W_St G (sh a 21) v.2.1) (W_Pd G (sh a 41) v.2.2.1) (W_Or G (sh a 43) v.2.2.2.1) (W_Hi G (sh a 48) q_8) X) (pm_12 (O_Fd G a h) (W_St G (sh a 1) q_20.2) (W_St G (sh a 21) v.2.1) (W_Pd G (sh a 41) v.2.2.1) (W_Or G (sh a 43) v.2.2.2.1) (W_Hi G (sh a 48) q_8) X).symm 6 0 rfl rfl rfl rfl rfl (Nat.le_of_ble_eq_true rfl) hl.1 d_Fd_blur_20 ⟨Nat.zero_le _, Nat.zero_le _⟩ (fun H locs hP hD hS => ?_)
  obtain ⟨q_23, hc_23, hf⟩ := oc_e hf
  refine kcV (cc := c_Fd_blur) (own := "FloodDiary") (index := 55) (wc := W_Hi G (sh a 48) q_8) (wr := O_Fd G a h ++ (W_St G (sh a 1) q_20.2 ++ (W_St G (sh a 21) v.2.1 ++ (W_Pd G (sh a 41) v.2.2.1 ++ (W_Or G (sh a 43) v.2.2.2.1 ++ (X ++ (([] : va_W)))))))) (wc' := W_Hi G (sh a 48) q_23.2) (ws' := W_Fd G a h X (q_20.2, v.2.1, v.2.2.1, v.2.2.2.1, q_23.2)) hx hb hml hown hts hK hN hA hP hD hS (t_Hi_record l G (sh a 48) q_20.1 q_8 q_23 hc_23) m_Hi_record k_298 ⟨Nat.le_of_ble_eq_true rfl, Nat.le_of_ble_eq_true rfl⟩ (pm_34 (O_Fd G a h) (W_St G (sh a 1) q_20.2) (W_St G (sh a 21) v.2.1) (W_Pd G (sh a 41) v.2.2.1) (W_Or G (sh a 43) v.2.2.2.1) (W_Hi G (sh a 48) q_8) X) (pm_34 (O_Fd G a h) (W_St G (sh a 1) q_20.2) (W_St G (sh a 21) v.2.1) (W_Pd G (sh a 41) v.2.2.1) (W_Or G (sh a 43) v.2.2.2.1) (W_Hi G (sh a 48) q_23.2) X).symm 1 0 rfl rfl rfl rfl rfl (Nat.le_of_ble_eq_true rfl) hl.1 d_Fd_blur_23 ⟨Nat.zero_le _, Nat.zero_le _⟩ (fun H locs hP hD hS => ?_)
  cases hf
  exact kI hx hb hr hlk hP hD hS d_Fd_blur_26
set_option maxHeartbeats 4000000 in
set_option maxRecDepth 100000 in
theorem t_Fd_mend (l : Launch) (G : GG) (a : Nat → Nat) (h : Nat) (X : va_W) (l1 : Int32) (v : V_Fd) (q : Int32 × V_Fd) (hf : f_Fd_mend l1 v = some q) : MI l G y_Fd_mend c_Fd_mend 2 (some .int) (rmk 5 118) (W_Fd G a h X v) [.ref (a 0), .int l1] (W_Fd G a h X q.2) (q.1) := by
  refine ofI "FloodDiary" (by decide +kernel) rfl (Nat.le_of_ble_eq_true rfl) (fun p e s m args below meth c A ls hx hb hr hml hown hts hlk hK hN hA hP hD hS hl => ?_)
  have hl : lv_has ls 2 [(0, .ref (a 0)), (1, .int l1)] := hl
  unfold f_Fd_mend at hf
  refine lv_aload_n hx hb d_Fd_mend_0 rfl (lv_at hl 0 rfl) ?_
  refine va_get (D := G.1) (ci := 8) (v := .ref (a 48)) (C := R_Fd) (T := T_Fd) (N := 6) hx hb hts in_Fd hown hK hP 0 rfl rfl 2 (by decide) (hts _ k_220) (fun _ h9 => h9) rfl d_Fd_mend_1 ?_
  refine lv_aload_n hx hb d_Fd_mend_4 rfl (lv_at hl 0 rfl) ?_
  refine va_get (D := G.1) (ci := 8) (v := .ref (a 1)) (C := R_Fd) (T := T_Fd) (N := 6) hx hb hts in_Fd hown hK hP 0 rfl rfl 0 (by decide) (hts _ k_218) (fun _ h9 => h9) rfl d_Fd_mend_5 ?_
  obtain ⟨q_8, hc_8, hf⟩ := oc_e hf
  refine kcVv (cc := c_Fd_mend) (own := "FloodDiary") (index := 47) (wc := W_Hi G (sh a 48) v.2.2.2.2 ++ W_St G (sh a 1) v.1) (wr := O_Fd G a h ++ (W_St G (sh a 21) v.2.1 ++ (W_Pd G (sh a 41) v.2.2.1 ++ (W_Or G (sh a 43) v.2.2.2.1 ++ (X ++ (([] : va_W))))))) (wc' := W_Hi G (sh a 48) q_8 ++ W_St G (sh a 1) v.1) (ws' := W_Fd G a h X (v.1, v.2.1, v.2.2.1, v.2.2.2.1, q_8)) hx hb hml hown hts hK hN hA hP hD hS (t_Hi_prepare l G (sh a 48) (sh a 1) v.2.2.2.2 v.1 q_8 hc_8) m_Hi_prepare k_241 ⟨Nat.le_of_ble_eq_true rfl, Nat.le_of_ble_eq_true rfl⟩ (pm_33 (O_Fd G a h) (W_St G (sh a 1) v.1) (W_St G (sh a 21) v.2.1) (W_Pd G (sh a 41) v.2.2.1) (W_Or G (sh a 43) v.2.2.2.1) (W_Hi G (sh a 48) v.2.2.2.2) X) (pm_33 (O_Fd G a h) (W_St G (sh a 1) v.1) (W_St G (sh a 21) v.2.1) (W_Pd G (sh a 41) v.2.2.1) (W_Or G (sh a 43) v.2.2.2.1) (W_Hi G (sh a 48) q_8) X).symm 1 0 rfl rfl rfl rfl rfl (Nat.le_of_ble_eq_true rfl) hl.1 d_Fd_mend_8 ⟨Nat.zero_le _, Nat.zero_le _⟩ (fun H locs hP hD hS => ?_)
  refine lv_aload_n hx hb d_Fd_mend_11 rfl (lv_at hl 0 rfl) ?_
  refine va_get (D := G.1) (ci := 8) (v := .ref (a 48)) (C := R_Fd) (T := T_Fd) (N := 6) hx hb hts in_Fd hown hK hP 0 rfl rfl 2 (by decide) (hts _ k_220) (fun _ h9 => h9) rfl d_Fd_mend_12 ?_
  refine lv_aload_n hx hb d_Fd_mend_15 rfl (lv_at hl 0 rfl) ?_
  refine va_get (D := G.1) (ci := 8) (v := .ref (a 1)) (C := R_Fd) (T := T_Fd) (N := 6) hx hb hts in_Fd hown hK hP 0 rfl rfl 0 (by decide) (hts _ k_218) (fun _ h9 => h9) rfl d_Fd_mend_16 ?_
  refine lv_iload_n hx hb d_Fd_mend_19 rfl (lv_at hl 1 rfl) ?_
  obtain ⟨q_20, hc_20, hf⟩ := oc_e hf
  refine kcV (cc := c_Fd_mend) (own := "FloodDiary") (index := 81) (wc := W_St G (sh a 1) v.1) (wr := O_Fd G a h ++ (W_St G (sh a 21) v.2.1 ++ (W_Pd G (sh a 41) v.2.2.1 ++ (W_Or G (sh a 43) v.2.2.2.1 ++ (W_Hi G (sh a 48) q_8 ++ (X ++ (([] : va_W)))))))) (wc' := W_St G (sh a 1) q_20.2) (ws' := W_Fd G a h X (q_20.2, v.2.1, v.2.2.1, v.2.2.2.1, q_8)) hx hb hml hown hts hK hN hA hP hD hS (t_St_mendSteps l G (sh a 1) l1 v.1 q_20 hc_20) m_St_mendSteps k_490 ⟨Nat.le_of_ble_eq_true rfl, Nat.le_of_ble_eq_true rfl⟩ (pm_12 (O_Fd G a h) (W_St G (sh a 1) v.1) (W_St G (sh a 21) v.2.1) (W_Pd G (sh a 41) v.2.2.1) (W_Or G (sh a 43) v.2.2.2.1) (W_Hi G (sh a 48) q_8) X) (pm_12 (O_Fd G a h) (W_St G (sh a 1) q_20.2) (W_St G (sh a 21) v.2.1) (W_Pd G (sh a 41) v.2.2.1) (W_Or G (sh a 43) v.2.2.2.1) (W_Hi G (sh a 48) q_8) X).symm 6 0 rfl rfl rfl rfl rfl (Nat.le_of_ble_eq_true rfl) hl.1 d_Fd_mend_20 ⟨Nat.zero_le _, Nat.zero_le _⟩ (fun H locs hP hD hS => ?_)
  obtain ⟨q_23, hc_23, hf⟩ := oc_e hf
  refine kcV (cc := c_Fd_mend) (own := "FloodDiary") (index := 55) (wc := W_Hi G (sh a 48) q_8) (wr := O_Fd G a h ++ (W_St G (sh a 1) q_20.2 ++ (W_St G (sh a 21) v.2.1 ++ (W_Pd G (sh a 41) v.2.2.1 ++ (W_Or G (sh a 43) v.2.2.2.1 ++ (X ++ (([] : va_W)))))))) (wc' := W_Hi G (sh a 48) q_23.2) (ws' := W_Fd G a h X (q_20.2, v.2.1, v.2.2.1, v.2.2.2.1, q_23.2)) hx hb hml hown hts hK hN hA hP hD hS (t_Hi_record l G (sh a 48) q_20.1 q_8 q_23 hc_23) m_Hi_record k_298 ⟨Nat.le_of_ble_eq_true rfl, Nat.le_of_ble_eq_true rfl⟩ (pm_34 (O_Fd G a h) (W_St G (sh a 1) q_20.2) (W_St G (sh a 21) v.2.1) (W_Pd G (sh a 41) v.2.2.1) (W_Or G (sh a 43) v.2.2.2.1) (W_Hi G (sh a 48) q_8) X) (pm_34 (O_Fd G a h) (W_St G (sh a 1) q_20.2) (W_St G (sh a 21) v.2.1) (W_Pd G (sh a 41) v.2.2.1) (W_Or G (sh a 43) v.2.2.2.1) (W_Hi G (sh a 48) q_23.2) X).symm 1 0 rfl rfl rfl rfl rfl (Nat.le_of_ble_eq_true rfl) hl.1 d_Fd_mend_23 ⟨Nat.zero_le _, Nat.zero_le _⟩ (fun H locs hP hD hS => ?_)
  cases hf
  exact kI hx hb hr hlk hP hD hS d_Fd_mend_26
set_option maxHeartbeats 4000000 in
set_option maxRecDepth 100000 in
theorem t_Fd_ofPage (l : Launch) (G : GG) (a : Nat → Nat) (h : Nat) (X : va_W) (l1 : Int32) (l2 : Int32) (v : V_Fd) (q : Int32) (hf : f_Fd_ofPage l1 l2 v = some q) : MI l G y_Fd_ofPage c_Fd_ofPage 3 (some .int) (rmk 5 108) (W_Fd G a h X v) [.ref (a 0), .int l1, .int l2] (W_Fd G a h X v) (q) := by
  refine ofI "FloodDiary" (by decide +kernel) rfl (Nat.le_of_ble_eq_true rfl) (fun p e s m args below meth c A ls hx hb hr hml hown hts hlk hK hN hA hP hD hS hl => ?_)
  have hl : lv_has ls 3 [(0, .ref (a 0)), (1, .int l1), (2, .int l2)] := hl
  unfold f_Fd_ofPage at hf
  refine lv_aload_n hx hb d_Fd_ofPage_0 rfl (lv_at hl 0 rfl) ?_
  refine va_get (D := G.1) (ci := 8) (v := .ref (a 1)) (C := R_Fd) (T := T_Fd) (N := 6) hx hb hts in_Fd hown hK hP 0 rfl rfl 0 (by decide) (hts _ k_218) (fun _ h9 => h9) rfl d_Fd_ofPage_1 ?_
  refine lv_iload_n hx hb d_Fd_ofPage_4 rfl (lv_at hl 1 rfl) ?_
  refine lv_iload_n hx hb d_Fd_ofPage_5 rfl (lv_at hl 2 rfl) ?_
  obtain ⟨q_6, hc_6, hf⟩ := oc_e hf
  refine kcV (cc := c_Fd_ofPage) (own := "FloodDiary") (index := 84) (wc := W_St G (sh a 1) v.1) (wr := O_Fd G a h ++ (W_St G (sh a 21) v.2.1 ++ (W_Pd G (sh a 41) v.2.2.1 ++ (W_Or G (sh a 43) v.2.2.2.1 ++ (W_Hi G (sh a 48) v.2.2.2.2 ++ (X ++ (([] : va_W)))))))) (wc' := W_St G (sh a 1) v.1) (ws' := W_Fd G a h X v) hx hb hml hown hts hK hN hA hP hD hS (t_St_aboutPage l G (sh a 1) l1 l2 v.1 q_6 hc_6) m_St_aboutPage k_522 ⟨Nat.le_of_ble_eq_true rfl, Nat.le_of_ble_eq_true rfl⟩ (pm_12 (O_Fd G a h) (W_St G (sh a 1) v.1) (W_St G (sh a 21) v.2.1) (W_Pd G (sh a 41) v.2.2.1) (W_Or G (sh a 43) v.2.2.2.1) (W_Hi G (sh a 48) v.2.2.2.2) X) (pm_12 (O_Fd G a h) (W_St G (sh a 1) v.1) (W_St G (sh a 21) v.2.1) (W_Pd G (sh a 41) v.2.2.1) (W_Or G (sh a 43) v.2.2.2.1) (W_Hi G (sh a 48) v.2.2.2.2) X).symm 6 0 rfl rfl rfl rfl rfl (Nat.le_of_ble_eq_true rfl) hl.1 d_Fd_ofPage_6 ⟨Nat.zero_le _, Nat.zero_le _⟩ (fun H locs hP hD hS => ?_)
  cases hf
  exact kI hx hb hr hlk hP hD hS d_Fd_ofPage_9
theorem pm_35 (x0 x1 x2 x3 x4 x5 x6 x7 x8 x9 : va_W) : List.Perm (x0 ++ (x1 ++ (x2 ++ (x3 ++ (x4 ++ (([] : va_W))))) ++ (x5 ++ (x6 ++ (x7 ++ (x8 ++ (x9 ++ (([] : va_W))))))))) ((x4) ++ (x0 ++ (x1 ++ (x2 ++ (x3 ++ (x5 ++ (x6 ++ (x7 ++ (x8 ++ (x9 ++ (([] : va_W)))))))))))) := prm (fun d z => by first | (simp only [List.count_append, List.count_nil]; omega) | simp only [List.count_append, List.count_nil])
set_option maxHeartbeats 4000000 in
set_option maxRecDepth 100000 in
theorem t_Fd_ofWork (l : Launch) (G : GG) (a : Nat → Nat) (h : Nat) (X : va_W) (l1 : Int32) (l2 : Int32) (v : V_Fd) (q : Int32) (hf : f_Fd_ofWork l1 l2 v = some q) : MI l G y_Fd_ofWork c_Fd_ofWork 3 (some .int) (rmk 2 43) (W_Fd G a h X v) [.ref (a 0), .int l1, .int l2] (W_Fd G a h X v) (q) := by
  refine ofI "FloodDiary" (by decide +kernel) rfl (Nat.le_of_ble_eq_true rfl) (fun p e s m args below meth c A ls hx hb hr hml hown hts hlk hK hN hA hP hD hS hl => ?_)
  have hl : lv_has ls 3 [(0, .ref (a 0)), (1, .int l1), (2, .int l2)] := hl
  unfold f_Fd_ofWork at hf
  refine lv_aload_n hx hb d_Fd_ofWork_0 rfl (lv_at hl 0 rfl) ?_
  refine va_get (D := G.1) (ci := 8) (v := .ref (a 1)) (C := R_Fd) (T := T_Fd) (N := 6) hx hb hts in_Fd hown hK hP 0 rfl rfl 0 (by decide) (hts _ k_218) (fun _ h9 => h9) rfl d_Fd_ofWork_1 ?_
  refine va_getN (D := G.1) (ci := 6) (v := .ref (a 15)) (C := R_St) (T := T_St) (N := 9) (host := "FloodDiary") hx hb hts in_St hown hK hP 1 rfl rfl 2 (by decide) (va_Nw.use rfl (hN.1 _ nsF_7)) (fun _ h9 => h9) rfl d_Fd_ofWork_4 ?_
  refine lv_iload_n hx hb d_Fd_ofWork_7 rfl (lv_at hl 1 rfl) ?_
  refine lv_iload_n hx hb d_Fd_ofWork_8 rfl (lv_at hl 2 rfl) ?_
  obtain ⟨q_9, hc_9, hf⟩ := oc_e hf
  refine kcV (cc := c_Fd_ofWork) (own := "FloodDiary") (index := 92) (wc := W_Wk G (sh a 15) v.1.2.2.1) (wr := O_Fd G a h ++ (O_St G (sh a 1) v.1 ++ (W_Pg G (sh a 2) v.1.1 ++ (W_Dy G (sh a 7) v.1.2.1 ++ (W_St G (sh a 21) v.2.1 ++ (W_Pd G (sh a 41) v.2.2.1 ++ (W_Or G (sh a 43) v.2.2.2.1 ++ (W_Hi G (sh a 48) v.2.2.2.2 ++ (X ++ (([] : va_W))))))))))) (wc' := W_Wk G (sh a 15) v.1.2.2.1) (ws' := W_Fd G a h X v) hx hb hml hown hts hK hN hA hP hD hS (t_Wk_about l G (sh a 15) l1 l2 v.1.2.2.1 q_9 hc_9) m_Wk_about k_545 ⟨Nat.le_of_ble_eq_true rfl, Nat.le_of_ble_eq_true rfl⟩ (pm_35 (O_Fd G a h) (O_St G (sh a 1) v.1) (W_Pg G (sh a 2) v.1.1) (W_Dy G (sh a 7) v.1.2.1) (W_Wk G (sh a 15) v.1.2.2.1) (W_St G (sh a 21) v.2.1) (W_Pd G (sh a 41) v.2.2.1) (W_Or G (sh a 43) v.2.2.2.1) (W_Hi G (sh a 48) v.2.2.2.2) X) (pm_35 (O_Fd G a h) (O_St G (sh a 1) v.1) (W_Pg G (sh a 2) v.1.1) (W_Dy G (sh a 7) v.1.2.1) (W_Wk G (sh a 15) v.1.2.2.1) (W_St G (sh a 21) v.2.1) (W_Pd G (sh a 41) v.2.2.1) (W_Or G (sh a 43) v.2.2.2.1) (W_Hi G (sh a 48) v.2.2.2.2) X).symm 7 0 rfl rfl rfl rfl rfl (Nat.le_of_ble_eq_true rfl) hl.1 d_Fd_ofWork_9 ⟨Nat.zero_le _, Nat.zero_le _⟩ (fun H locs hP hD hS => ?_)
  cases hf
  exact kI hx hb hr hlk hP hD hS d_Fd_ofWork_12
theorem pm_36 (x0 x1 x2 x3 x4 x5 x6 x7 x8 x9 : va_W) : List.Perm (x0 ++ (x1 ++ (x2 ++ (x3 ++ (x4 ++ (([] : va_W))))) ++ (x5 ++ (x6 ++ (x7 ++ (x8 ++ (x9 ++ (([] : va_W))))))))) ((x3) ++ (x0 ++ (x1 ++ (x2 ++ (x4 ++ (x5 ++ (x6 ++ (x7 ++ (x8 ++ (x9 ++ (([] : va_W)))))))))))) := prm (fun d z => by first | (simp only [List.count_append, List.count_nil]; omega) | simp only [List.count_append, List.count_nil])
set_option maxHeartbeats 4000000 in
set_option maxRecDepth 100000 in
theorem t_Fd_ofEntry (l : Launch) (G : GG) (a : Nat → Nat) (h : Nat) (X : va_W) (l1 : Int32) (l2 : Int32) (v : V_Fd) (q : Int32) (hf : f_Fd_ofEntry l1 l2 v = some q) : MI l G y_Fd_ofEntry c_Fd_ofEntry 3 (some .int) (rmk 3 64) (W_Fd G a h X v) [.ref (a 0), .int l1, .int l2] (W_Fd G a h X v) (q) := by
  refine ofI "FloodDiary" (by decide +kernel) rfl (Nat.le_of_ble_eq_true rfl) (fun p e s m args below meth c A ls hx hb hr hml hown hts hlk hK hN hA hP hD hS hl => ?_)
  have hl : lv_has ls 3 [(0, .ref (a 0)), (1, .int l1), (2, .int l2)] := hl
  unfold f_Fd_ofEntry at hf
  refine lv_aload_n hx hb d_Fd_ofEntry_0 rfl (lv_at hl 0 rfl) ?_
  refine va_get (D := G.1) (ci := 8) (v := .ref (a 1)) (C := R_Fd) (T := T_Fd) (N := 6) hx hb hts in_Fd hown hK hP 0 rfl rfl 0 (by decide) (hts _ k_218) (fun _ h9 => h9) rfl d_Fd_ofEntry_1 ?_
  refine va_getN (D := G.1) (ci := 6) (v := .ref (a 7)) (C := R_St) (T := T_St) (N := 9) (host := "FloodDiary") hx hb hts in_St hown hK hP 1 rfl rfl 1 (by decide) (va_Nw.use rfl (hN.1 _ nsF_6)) (fun _ h9 => h9) rfl d_Fd_ofEntry_4 ?_
  refine lv_iload_n hx hb d_Fd_ofEntry_7 rfl (lv_at hl 1 rfl) ?_
  refine lv_iload_n hx hb d_Fd_ofEntry_8 rfl (lv_at hl 2 rfl) ?_
  obtain ⟨q_9, hc_9, hf⟩ := oc_e hf
  refine kcV (cc := c_Fd_ofEntry) (own := "FloodDiary") (index := 101) (wc := W_Dy G (sh a 7) v.1.2.1) (wr := O_Fd G a h ++ (O_St G (sh a 1) v.1 ++ (W_Pg G (sh a 2) v.1.1 ++ (W_Wk G (sh a 15) v.1.2.2.1 ++ (W_St G (sh a 21) v.2.1 ++ (W_Pd G (sh a 41) v.2.2.1 ++ (W_Or G (sh a 43) v.2.2.2.1 ++ (W_Hi G (sh a 48) v.2.2.2.2 ++ (X ++ (([] : va_W))))))))))) (wc' := W_Dy G (sh a 7) v.1.2.1) (ws' := W_Fd G a h X v) hx hb hml hown hts hK hN hA hP hD hS (t_Dy_about l G (sh a 7) l1 l2 v.1.2.1 q_9 hc_9) m_Dy_about k_553 ⟨Nat.le_of_ble_eq_true rfl, Nat.le_of_ble_eq_true rfl⟩ (pm_36 (O_Fd G a h) (O_St G (sh a 1) v.1) (W_Pg G (sh a 2) v.1.1) (W_Dy G (sh a 7) v.1.2.1) (W_Wk G (sh a 15) v.1.2.2.1) (W_St G (sh a 21) v.2.1) (W_Pd G (sh a 41) v.2.2.1) (W_Or G (sh a 43) v.2.2.2.1) (W_Hi G (sh a 48) v.2.2.2.2) X) (pm_36 (O_Fd G a h) (O_St G (sh a 1) v.1) (W_Pg G (sh a 2) v.1.1) (W_Dy G (sh a 7) v.1.2.1) (W_Wk G (sh a 15) v.1.2.2.1) (W_St G (sh a 21) v.2.1) (W_Pd G (sh a 41) v.2.2.1) (W_Or G (sh a 43) v.2.2.2.1) (W_Hi G (sh a 48) v.2.2.2.2) X).symm 0 0 rfl rfl rfl rfl rfl (Nat.le_of_ble_eq_true rfl) hl.1 d_Fd_ofEntry_9 ⟨Nat.zero_le _, Nat.zero_le _⟩ (fun H locs hP hD hS => ?_)
  cases hf
  exact kI hx hb hr hlk hP hD hS d_Fd_ofEntry_12
theorem pm_37 (x0 x1 x2 x3 x4 x5 x6 : va_W) : List.Perm (x0 ++ (x1 ++ (x2 ++ (x3 ++ (x4 ++ (x5 ++ (x6 ++ (([] : va_W))))))))) ((x3) ++ (x0 ++ (x1 ++ (x2 ++ (x4 ++ (x5 ++ (x6 ++ (([] : va_W))))))))) := prm (fun d z => by first | (simp only [List.count_append, List.count_nil]; omega) | simp only [List.count_append, List.count_nil])
set_option maxHeartbeats 4000000 in
set_option maxRecDepth 100000 in
theorem t_Fd_count (l : Launch) (G : GG) (a : Nat → Nat) (h : Nat) (X : va_W) (l1 : Int32) (v : V_Fd) (q : Int32) (hf : f_Fd_count l1 v = some q) : MI l G y_Fd_count c_Fd_count 2 (some .int) (rmk 5 105) (W_Fd G a h X v) [.ref (a 0), .int l1] (W_Fd G a h X v) (q) := by
  refine ofI "FloodDiary" (by decide +kernel) rfl (Nat.le_of_ble_eq_true rfl) (fun p e s m args below meth c A ls hx hb hr hml hown hts hlk hK hN hA hP hD hS hl => ?_)
  have hl : lv_has ls 2 [(0, .ref (a 0)), (1, .int l1)] := hl
  unfold f_Fd_count at hf
  refine lv_iload_n hx hb d_Fd_count_0 rfl (lv_at hl 1 rfl) ?_
  by_cases e_1_9 : l1 = (9 : Int32)
  · replace hf := ob_et e_1_9 hf
    refine lv_lookup (off := 27) (tgt := 28) hx hb d_Fd_count_1 (by decide) (by rw [e_1_9]; decide) (by decide) ?_
    refine lv_aload_n hx hb d_Fd_count_28 rfl (lv_at hl 0 rfl) ?_
    refine va_get (D := G.1) (ci := 8) (v := .ref (a 41)) (C := R_Fd) (T := T_Fd) (N := 6) hx hb hts in_Fd hown hK hP 0 rfl rfl 4 (by decide) (hts _ k_222) (fun _ h9 => h9) rfl d_Fd_count_29 ?_
    obtain ⟨q_32, hc_32, hf⟩ := oc_e hf
    refine kcV (cc := c_Fd_count) (own := "FloodDiary") (index := 104) (wc := W_Pd G (sh a 41) v.2.2.1) (wr := O_Fd G a h ++ (W_St G (sh a 1) v.1 ++ (W_St G (sh a 21) v.2.1 ++ (W_Or G (sh a 43) v.2.2.2.1 ++ (W_Hi G (sh a 48) v.2.2.2.2 ++ (X ++ (([] : va_W)))))))) (wc' := W_Pd G (sh a 41) v.2.2.1) (ws' := W_Fd G a h X v) hx hb hml hown hts hK hN hA hP hD hS (t_Pd_length l G (sh a 41) v.2.2.1 q_32 hc_32) m_Pd_length k_569 ⟨Nat.le_of_ble_eq_true rfl, Nat.le_of_ble_eq_true rfl⟩ (pm_37 (O_Fd G a h) (W_St G (sh a 1) v.1) (W_St G (sh a 21) v.2.1) (W_Pd G (sh a 41) v.2.2.1) (W_Or G (sh a 43) v.2.2.2.1) (W_Hi G (sh a 48) v.2.2.2.2) X) (pm_37 (O_Fd G a h) (W_St G (sh a 1) v.1) (W_St G (sh a 21) v.2.1) (W_Pd G (sh a 41) v.2.2.1) (W_Or G (sh a 43) v.2.2.2.1) (W_Hi G (sh a 48) v.2.2.2.2) X).symm 3 0 rfl rfl rfl rfl rfl (Nat.le_of_ble_eq_true rfl) hl.1 d_Fd_count_32 ⟨Nat.zero_le _, Nat.zero_le _⟩ (fun H locs hP hD hS => ?_)
    cases hf
    exact kI hx hb hr hlk hP hD hS d_Fd_count_35
  · replace hf := ob_ef e_1_9 hf
    by_cases e_1_10 : l1 = (10 : Int32)
    · replace hf := ob_et e_1_10 hf
      refine lv_lookup (off := 35) (tgt := 36) hx hb d_Fd_count_1 (by decide) (by rw [e_1_10]; decide) (by decide) ?_
      refine lv_aload_n hx hb d_Fd_count_36 rfl (lv_at hl 0 rfl) ?_
      refine va_get (D := G.1) (ci := 8) (v := .ref (a 48)) (C := R_Fd) (T := T_Fd) (N := 6) hx hb hts in_Fd hown hK hP 0 rfl rfl 2 (by decide) (hts _ k_220) (fun _ h9 => h9) rfl d_Fd_count_37 ?_
      obtain ⟨q_40, hc_40, hf⟩ := oc_e hf
      refine kcV (cc := c_Fd_count) (own := "FloodDiary") (index := 107) (wc := W_Hi G (sh a 48) v.2.2.2.2) (wr := O_Fd G a h ++ (W_St G (sh a 1) v.1 ++ (W_St G (sh a 21) v.2.1 ++ (W_Pd G (sh a 41) v.2.2.1 ++ (W_Or G (sh a 43) v.2.2.2.1 ++ (X ++ (([] : va_W)))))))) (wc' := W_Hi G (sh a 48) v.2.2.2.2) (ws' := W_Fd G a h X v) hx hb hml hown hts hK hN hA hP hD hS (t_Hi_length l G (sh a 48) v.2.2.2.2 q_40 hc_40) m_Hi_length k_573 ⟨Nat.le_of_ble_eq_true rfl, Nat.le_of_ble_eq_true rfl⟩ (pm_34 (O_Fd G a h) (W_St G (sh a 1) v.1) (W_St G (sh a 21) v.2.1) (W_Pd G (sh a 41) v.2.2.1) (W_Or G (sh a 43) v.2.2.2.1) (W_Hi G (sh a 48) v.2.2.2.2) X) (pm_34 (O_Fd G a h) (W_St G (sh a 1) v.1) (W_St G (sh a 21) v.2.1) (W_Pd G (sh a 41) v.2.2.1) (W_Or G (sh a 43) v.2.2.2.1) (W_Hi G (sh a 48) v.2.2.2.2) X).symm 1 0 rfl rfl rfl rfl rfl (Nat.le_of_ble_eq_true rfl) hl.1 d_Fd_count_40 ⟨Nat.zero_le _, Nat.zero_le _⟩ (fun H locs hP hD hS => ?_)
      cases hf
      exact kI hx hb hr hlk hP hD hS d_Fd_count_43
    · replace hf := ob_ef e_1_10 hf
      have z_1_9 := lv_neT e_1_9 (show (9 : Int32).toInt = 9 by decide)
      have z_1_10 := lv_neT e_1_10 (show (10 : Int32).toInt = 10 by decide)
      refine lv_lookup (off := 43) (tgt := 44) hx hb d_Fd_count_1 (by decide) (by rw [lv_osw e_1_9 (by decide)]; rw [lv_osw e_1_10 (by decide)]; rfl) (by decide) ?_
      refine lv_aload_n hx hb d_Fd_count_44 rfl (lv_at hl 0 rfl) ?_
      refine va_get (D := G.1) (ci := 8) (v := .ref (a 1)) (C := R_Fd) (T := T_Fd) (N := 6) hx hb hts in_Fd hown hK hP 0 rfl rfl 0 (by decide) (hts _ k_218) (fun _ h9 => h9) rfl d_Fd_count_45 ?_
      refine lv_iload_n hx hb d_Fd_count_48 rfl (lv_at hl 1 rfl) ?_
      obtain ⟨q_49, hc_49, hf⟩ := oc_e hf
      refine kcV (cc := c_Fd_count) (own := "FloodDiary") (index := 108) (wc := W_St G (sh a 1) v.1) (wr := O_Fd G a h ++ (W_St G (sh a 21) v.2.1 ++ (W_Pd G (sh a 41) v.2.2.1 ++ (W_Or G (sh a 43) v.2.2.2.1 ++ (W_Hi G (sh a 48) v.2.2.2.2 ++ (X ++ (([] : va_W)))))))) (wc' := W_St G (sh a 1) v.1) (ws' := W_Fd G a h X v) hx hb hml hown hts hK hN hA hP hD hS (t_St_number l G (sh a 1) l1 v.1 q_49 hc_49) m_St_number k_577 ⟨Nat.le_of_ble_eq_true rfl, Nat.le_of_ble_eq_true rfl⟩ (pm_12 (O_Fd G a h) (W_St G (sh a 1) v.1) (W_St G (sh a 21) v.2.1) (W_Pd G (sh a 41) v.2.2.1) (W_Or G (sh a 43) v.2.2.2.1) (W_Hi G (sh a 48) v.2.2.2.2) X) (pm_12 (O_Fd G a h) (W_St G (sh a 1) v.1) (W_St G (sh a 21) v.2.1) (W_Pd G (sh a 41) v.2.2.1) (W_Or G (sh a 43) v.2.2.2.1) (W_Hi G (sh a 48) v.2.2.2.2) X).symm 6 0 rfl rfl rfl rfl rfl (Nat.le_of_ble_eq_true rfl) hl.1 d_Fd_count_49 ⟨Nat.zero_le _, Nat.zero_le _⟩ (fun H locs hP hD hS => ?_)
      cases hf
      exact kI hx hb hr hlk hP hD hS d_Fd_count_52
set_option maxHeartbeats 4000000 in
set_option maxRecDepth 100000 in
theorem t_Fd_stepsToMend (l : Launch) (G : GG) (a : Nat → Nat) (h : Nat) (X : va_W) (v : V_Fd) (q : Int32 × V_Fd) (hf : f_Fd_stepsToMend v = some q) : MI l G y_Fd_stepsToMend c_Fd_stepsToMend 1 (some .int) (rmk 6 131) (W_Fd G a h X v) [.ref (a 0)] (W_Fd G a h X q.2) (q.1) := by
  refine ofI "FloodDiary" (by decide +kernel) rfl (Nat.le_of_ble_eq_true rfl) (fun p e s m args below meth c A ls hx hb hr hml hown hts hlk hK hN hA hP hD hS hl => ?_)
  have hl : lv_has ls 1 [(0, .ref (a 0))] := hl
  unfold f_Fd_stepsToMend at hf
  refine lv_aload_n hx hb d_Fd_stepsToMend_0 rfl (lv_at hl 0 rfl) ?_
  obtain ⟨q_1, hc_1, hf⟩ := oc_e hf
  refine kcVv (cc := c_Fd_stepsToMend) (own := "FloodDiary") (index := 111) (wc := W_Fd G a h X v) (wr := ([] : va_W)) (wc' := W_Fd G a h X q_1) (ws' := W_Fd G a h X q_1) hx hb hml hown hts hK hN hA hP hD hS (t_Fd_tryFlood l G a h X v q_1 hc_1) m_Fd_tryFlood k_594 ⟨Nat.le_of_ble_eq_true rfl, Nat.le_of_ble_eq_true rfl⟩ (pm_0 (W_Fd G a h X v)) (pm_0 (W_Fd G a h X q_1)).symm 8 0 rfl rfl rfl rfl rfl (Nat.le_of_ble_eq_true rfl) hl.1 d_Fd_stepsToMend_1 ⟨Nat.zero_le _, Nat.zero_le _⟩ (fun H locs hP hD hS => ?_)
  refine lv_aload_n hx hb d_Fd_stepsToMend_4 rfl (lv_at hl 0 rfl) ?_
  refine va_get (D := G.1) (ci := 8) (v := .ref (a 21)) (C := R_Fd) (T := T_Fd) (N := 6) hx hb hts in_Fd hown hK hP 0 rfl rfl 1 (by decide) (hts _ k_219) (fun _ h9 => h9) rfl d_Fd_stepsToMend_5 ?_
  refine lv_sipush (v := (999 : Int32)) hx hb d_Fd_stepsToMend_8 (by decide) ?_
  obtain ⟨q_11, hc_11, hf⟩ := oc_e hf
  refine kcV (cc := c_Fd_stepsToMend) (own := "FloodDiary") (index := 81) (wc := W_St G (sh a 21) q_1.2.1) (wr := O_Fd G a h ++ (W_St G (sh a 1) q_1.1 ++ (W_Pd G (sh a 41) q_1.2.2.1 ++ (W_Or G (sh a 43) q_1.2.2.2.1 ++ (W_Hi G (sh a 48) q_1.2.2.2.2 ++ (X ++ (([] : va_W)))))))) (wc' := W_St G (sh a 21) q_11.2) (ws' := W_Fd G a h X (q_1.1, q_11.2, q_1.2.2.1, q_1.2.2.2.1, q_1.2.2.2.2)) hx hb hml hown hts hK hN hA hP hD hS (t_St_mendSteps l G (sh a 21) (999 : Int32) q_1.2.1 q_11 hc_11) m_St_mendSteps k_490 ⟨Nat.le_of_ble_eq_true rfl, Nat.le_of_ble_eq_true rfl⟩ (pm_14 (O_Fd G a h) (W_St G (sh a 1) q_1.1) (W_St G (sh a 21) q_1.2.1) (W_Pd G (sh a 41) q_1.2.2.1) (W_Or G (sh a 43) q_1.2.2.2.1) (W_Hi G (sh a 48) q_1.2.2.2.2) X) (pm_14 (O_Fd G a h) (W_St G (sh a 1) q_1.1) (W_St G (sh a 21) q_11.2) (W_Pd G (sh a 41) q_1.2.2.1) (W_Or G (sh a 43) q_1.2.2.2.1) (W_Hi G (sh a 48) q_1.2.2.2.2) X).symm 6 0 rfl rfl rfl rfl rfl (Nat.le_of_ble_eq_true rfl) hl.1 d_Fd_stepsToMend_11 ⟨Nat.zero_le _, Nat.zero_le _⟩ (fun H locs hP hD hS => ?_)
  cases hf
  exact kI hx hb hr hlk hP hD hS d_Fd_stepsToMend_14
theorem pm_38 (x0 x1 x2 x3 x4 x5 x6 x7 x8 x9 : va_W) : List.Perm (x0 ++ (x1 ++ (x2 ++ (x3 ++ (x4 ++ (x5 ++ (([] : va_W))))) ++ (x6 ++ (x7 ++ (x8 ++ (x9 ++ (([] : va_W))))))))) ((x3) ++ (x0 ++ (x1 ++ (x2 ++ (x4 ++ (x5 ++ (x6 ++ (x7 ++ (x8 ++ (x9 ++ (([] : va_W)))))))))))) := prm (fun d z => by first | (simp only [List.count_append, List.count_nil]; omega) | simp only [List.count_append, List.count_nil])
set_option maxHeartbeats 4000000 in
set_option maxRecDepth 100000 in
theorem t_Fd_wouldBe (l : Launch) (G : GG) (a : Nat → Nat) (h : Nat) (X : va_W) (l1 : Int32) (v : V_Fd) (q : Int32 × V_Fd) (hf : f_Fd_wouldBe l1 v = some q) : MI l G y_Fd_wouldBe c_Fd_wouldBe 2 (some .int) (rmk 6 131) (W_Fd G a h X v) [.ref (a 0), .int l1] (W_Fd G a h X q.2) (q.1) := by
  refine ofI "FloodDiary" (by decide +kernel) rfl (Nat.le_of_ble_eq_true rfl) (fun p e s m args below meth c A ls hx hb hr hml hown hts hlk hK hN hA hP hD hS hl => ?_)
  have hl : lv_has ls 2 [(0, .ref (a 0)), (1, .int l1)] := hl
  unfold f_Fd_wouldBe at hf
  refine lv_iload_n hx hb d_Fd_wouldBe_0 rfl (lv_at hl 1 rfl) ?_
  obtain ⟨q_1, hc_1, hf⟩ := oc_e hf
  refine kcS (cc := c_Fd_wouldBe) (own := "FloodDiary") (index := 114) (wc := ([] : va_W)) (wr := W_Fd G a h X v) (wc' := ([] : va_W)) (ws' := W_Fd G a h X v) hx hb hml hown hts hK hN hA hP hD hS (t_Fd_isPage l G l1 q_1 hc_1) m_Fd_isPage k_603 ⟨Nat.le_of_ble_eq_true rfl, Nat.le_of_ble_eq_true rfl⟩ (List.Perm.refl _) (List.Perm.refl _) rfl rfl (Nat.le_of_ble_eq_true rfl) hl.1 d_Fd_wouldBe_1 ⟨Nat.zero_le _, Nat.zero_le _⟩ (fun H locs hP hD hS => ?_)
  refine lv_if_ne (tgt := 9) hx hb d_Fd_wouldBe_4 (by decide) (fun c_4 => ?_) (fun c_4 => ?_)
  · replace hf := ob_ef c_4 hf
    refine lv_aload_n hx hb d_Fd_wouldBe_9 rfl (lv_at hl 0 rfl) ?_
    obtain ⟨q_10, hc_10, hf⟩ := oc_e hf
    refine kcVv (cc := c_Fd_wouldBe) (own := "FloodDiary") (index := 111) (wc := W_Fd G a h X v) (wr := ([] : va_W)) (wc' := W_Fd G a h X q_10) (ws' := W_Fd G a h X q_10) hx hb hml hown hts hK hN hA hP hD hS (t_Fd_tryFlood l G a h X v q_10 hc_10) m_Fd_tryFlood k_594 ⟨Nat.le_of_ble_eq_true rfl, Nat.le_of_ble_eq_true rfl⟩ (pm_0 (W_Fd G a h X v)) (pm_0 (W_Fd G a h X q_10)).symm 8 0 rfl rfl rfl rfl rfl (Nat.le_of_ble_eq_true rfl) hl.1 d_Fd_wouldBe_10 ⟨Nat.zero_le _, Nat.zero_le _⟩ (fun H locs hP hD hS => ?_)
    refine lv_aload_n hx hb d_Fd_wouldBe_13 rfl (lv_at hl 0 rfl) ?_
    refine va_get (D := G.1) (ci := 8) (v := .ref (a 21)) (C := R_Fd) (T := T_Fd) (N := 6) hx hb hts in_Fd hown hK hP 0 rfl rfl 1 (by decide) (hts _ k_219) (fun _ h9 => h9) rfl d_Fd_wouldBe_14 ?_
    refine lv_sipush (v := (999 : Int32)) hx hb d_Fd_wouldBe_17 (by decide) ?_
    obtain ⟨q_20, hc_20, hf⟩ := oc_e hf
    refine kcV (cc := c_Fd_wouldBe) (own := "FloodDiary") (index := 81) (wc := W_St G (sh a 21) q_10.2.1) (wr := O_Fd G a h ++ (W_St G (sh a 1) q_10.1 ++ (W_Pd G (sh a 41) q_10.2.2.1 ++ (W_Or G (sh a 43) q_10.2.2.2.1 ++ (W_Hi G (sh a 48) q_10.2.2.2.2 ++ (X ++ (([] : va_W)))))))) (wc' := W_St G (sh a 21) q_20.2) (ws' := W_Fd G a h X (q_10.1, q_20.2, q_10.2.2.1, q_10.2.2.2.1, q_10.2.2.2.2)) hx hb hml hown hts hK hN hA hP hD hS (t_St_mendSteps l G (sh a 21) (999 : Int32) q_10.2.1 q_20 hc_20) m_St_mendSteps k_490 ⟨Nat.le_of_ble_eq_true rfl, Nat.le_of_ble_eq_true rfl⟩ (pm_14 (O_Fd G a h) (W_St G (sh a 1) q_10.1) (W_St G (sh a 21) q_10.2.1) (W_Pd G (sh a 41) q_10.2.2.1) (W_Or G (sh a 43) q_10.2.2.2.1) (W_Hi G (sh a 48) q_10.2.2.2.2) X) (pm_14 (O_Fd G a h) (W_St G (sh a 1) q_10.1) (W_St G (sh a 21) q_20.2) (W_Pd G (sh a 41) q_10.2.2.1) (W_Or G (sh a 43) q_10.2.2.2.1) (W_Hi G (sh a 48) q_10.2.2.2.2) X).symm 6 0 rfl rfl rfl rfl rfl (Nat.le_of_ble_eq_true rfl) hl.1 d_Fd_wouldBe_20 ⟨Nat.zero_le _, Nat.zero_le _⟩ (fun H locs hP hD hS => ?_)
    refine lv_pop hx hb d_Fd_wouldBe_23 rfl ?_
    refine lv_aload_n hx hb d_Fd_wouldBe_24 rfl (lv_at hl 0 rfl) ?_
    refine va_get (D := G.1) (ci := 8) (v := .ref (a 21)) (C := R_Fd) (T := T_Fd) (N := 6) hx hb hts in_Fd hown hK hP 0 rfl rfl 1 (by decide) (hts _ k_219) (fun _ h9 => h9) rfl d_Fd_wouldBe_25 ?_
    refine va_getN (D := G.1) (ci := 6) (v := .ref (a 22)) (C := R_St) (T := T_St) (N := 9) (host := "FloodDiary") hx hb hts in_St hown hK hP 21 rfl rfl 0 (by decide) (va_Nw.use rfl (hN.1 _ nsF_5)) (fun _ h9 => h9) rfl d_Fd_wouldBe_28 ?_
    refine lv_iload_n hx hb d_Fd_wouldBe_31 rfl (lv_at hl 1 rfl) ?_
    obtain ⟨q_32, hc_32, hf⟩ := oc_e hf
    refine kcVv (cc := c_Fd_wouldBe) (own := "FloodDiary") (index := 122) (wc := W_Pg G (sh a 22) q_20.2.1) (wr := O_Fd G a h ++ (W_St G (sh a 1) q_10.1 ++ (O_St G (sh a 21) q_20.2 ++ (W_Dy G (sh a 27) q_20.2.2.1 ++ (W_Wk G (sh a 35) q_20.2.2.2.1 ++ (W_Pd G (sh a 41) q_10.2.2.1 ++ (W_Or G (sh a 43) q_10.2.2.2.1 ++ (W_Hi G (sh a 48) q_10.2.2.2.2 ++ (X ++ (([] : va_W))))))))))) (wc' := W_Pg G (sh a 22) q_32) (ws' := W_Fd G a h X (q_10.1, (q_32, q_20.2.2.1, q_20.2.2.2.1, q_20.2.2.2.2.1, q_20.2.2.2.2.2.1, q_20.2.2.2.2.2.2.1, q_20.2.2.2.2.2.2.2.1, q_20.2.2.2.2.2.2.2.2.1, q_20.2.2.2.2.2.2.2.2.2), q_10.2.2.1, q_10.2.2.2.1, q_10.2.2.2.2)) hx hb hml hown hts hK hN hA hP hD hS (t_Pg_takeIntoHand l G (sh a 22) l1 q_20.2.1 q_32 hc_32) m_Pg_takeIntoHand k_604 ⟨Nat.le_of_ble_eq_true rfl, Nat.le_of_ble_eq_true rfl⟩ (pm_38 (O_Fd G a h) (W_St G (sh a 1) q_10.1) (O_St G (sh a 21) q_20.2) (W_Pg G (sh a 22) q_20.2.1) (W_Dy G (sh a 27) q_20.2.2.1) (W_Wk G (sh a 35) q_20.2.2.2.1) (W_Pd G (sh a 41) q_10.2.2.1) (W_Or G (sh a 43) q_10.2.2.2.1) (W_Hi G (sh a 48) q_10.2.2.2.2) X) (pm_38 (O_Fd G a h) (W_St G (sh a 1) q_10.1) (O_St G (sh a 21) (q_32, q_20.2.2.1, q_20.2.2.2.1, q_20.2.2.2.2.1, q_20.2.2.2.2.2.1, q_20.2.2.2.2.2.2.1, q_20.2.2.2.2.2.2.2.1, q_20.2.2.2.2.2.2.2.2.1, q_20.2.2.2.2.2.2.2.2.2)) (W_Pg G (sh a 22) ((q_32, q_20.2.2.1, q_20.2.2.2.1, q_20.2.2.2.2.1, q_20.2.2.2.2.2.1, q_20.2.2.2.2.2.2.1, q_20.2.2.2.2.2.2.2.1, q_20.2.2.2.2.2.2.2.2.1, q_20.2.2.2.2.2.2.2.2.2).1)) (W_Dy G (sh a 27) ((q_32, q_20.2.2.1, q_20.2.2.2.1, q_20.2.2.2.2.1, q_20.2.2.2.2.2.1, q_20.2.2.2.2.2.2.1, q_20.2.2.2.2.2.2.2.1, q_20.2.2.2.2.2.2.2.2.1, q_20.2.2.2.2.2.2.2.2.2).2.1)) (W_Wk G (sh a 35) ((q_32, q_20.2.2.1, q_20.2.2.2.1, q_20.2.2.2.2.1, q_20.2.2.2.2.2.1, q_20.2.2.2.2.2.2.1, q_20.2.2.2.2.2.2.2.1, q_20.2.2.2.2.2.2.2.2.1, q_20.2.2.2.2.2.2.2.2.2).2.2.1)) (W_Pd G (sh a 41) q_10.2.2.1) (W_Or G (sh a 43) q_10.2.2.2.1) (W_Hi G (sh a 48) q_10.2.2.2.2) X).symm 4 0 rfl rfl rfl rfl rfl (Nat.le_of_ble_eq_true rfl) hl.1 d_Fd_wouldBe_32 ⟨Nat.zero_le _, Nat.zero_le _⟩ (fun H locs hP hD hS => ?_)
    refine lv_aload_n hx hb d_Fd_wouldBe_35 rfl (lv_at hl 0 rfl) ?_
    refine va_get (D := G.1) (ci := 8) (v := .ref (a 21)) (C := R_Fd) (T := T_Fd) (N := 6) hx hb hts in_Fd hown hK hP 0 rfl rfl 1 (by decide) (hts _ k_219) (fun _ h9 => h9) rfl d_Fd_wouldBe_36 ?_
    refine va_getN (D := G.1) (ci := 6) (v := .ref (a 22)) (C := R_St) (T := T_St) (N := 9) (host := "FloodDiary") hx hb hts in_St hown hK hP 21 rfl rfl 0 (by decide) (va_Nw.use rfl (hN.1 _ nsF_5)) (fun _ h9 => h9) rfl d_Fd_wouldBe_39 ?_
    refine lv_iload_n hx hb d_Fd_wouldBe_42 rfl (lv_at hl 1 rfl) ?_
    obtain ⟨q_43, hc_43, hf⟩ := oc_e hf
    refine kcV (cc := c_Fd_wouldBe) (own := "FloodDiary") (index := 128) (wc := W_Pg G (sh a 22) ((q_32, q_20.2.2.1, q_20.2.2.2.1, q_20.2.2.2.2.1, q_20.2.2.2.2.2.1, q_20.2.2.2.2.2.2.1, q_20.2.2.2.2.2.2.2.1, q_20.2.2.2.2.2.2.2.2.1, q_20.2.2.2.2.2.2.2.2.2).1)) (wr := O_Fd G a h ++ (W_St G (sh a 1) q_10.1 ++ (O_St G (sh a 21) (q_32, q_20.2.2.1, q_20.2.2.2.1, q_20.2.2.2.2.1, q_20.2.2.2.2.2.1, q_20.2.2.2.2.2.2.1, q_20.2.2.2.2.2.2.2.1, q_20.2.2.2.2.2.2.2.2.1, q_20.2.2.2.2.2.2.2.2.2) ++ (W_Dy G (sh a 27) ((q_32, q_20.2.2.1, q_20.2.2.2.1, q_20.2.2.2.2.1, q_20.2.2.2.2.2.1, q_20.2.2.2.2.2.2.1, q_20.2.2.2.2.2.2.2.1, q_20.2.2.2.2.2.2.2.2.1, q_20.2.2.2.2.2.2.2.2.2).2.1) ++ (W_Wk G (sh a 35) ((q_32, q_20.2.2.1, q_20.2.2.2.1, q_20.2.2.2.2.1, q_20.2.2.2.2.2.1, q_20.2.2.2.2.2.2.1, q_20.2.2.2.2.2.2.2.1, q_20.2.2.2.2.2.2.2.2.1, q_20.2.2.2.2.2.2.2.2.2).2.2.1) ++ (W_Pd G (sh a 41) q_10.2.2.1 ++ (W_Or G (sh a 43) q_10.2.2.2.1 ++ (W_Hi G (sh a 48) q_10.2.2.2.2 ++ (X ++ (([] : va_W))))))))))) (wc' := W_Pg G (sh a 22) ((q_32, q_20.2.2.1, q_20.2.2.2.1, q_20.2.2.2.2.1, q_20.2.2.2.2.2.1, q_20.2.2.2.2.2.2.1, q_20.2.2.2.2.2.2.2.1, q_20.2.2.2.2.2.2.2.2.1, q_20.2.2.2.2.2.2.2.2.2).1)) (ws' := W_Fd G a h X (q_10.1, (q_32, q_20.2.2.1, q_20.2.2.2.1, q_20.2.2.2.2.1, q_20.2.2.2.2.2.1, q_20.2.2.2.2.2.2.1, q_20.2.2.2.2.2.2.2.1, q_20.2.2.2.2.2.2.2.2.1, q_20.2.2.2.2.2.2.2.2.2), q_10.2.2.1, q_10.2.2.2.1, q_10.2.2.2.2)) hx hb hml hown hts hK hN hA hP hD hS (t_Pg_valueInHand l G (sh a 22) l1 ((q_32, q_20.2.2.1, q_20.2.2.2.1, q_20.2.2.2.2.1, q_20.2.2.2.2.2.1, q_20.2.2.2.2.2.2.1, q_20.2.2.2.2.2.2.2.1, q_20.2.2.2.2.2.2.2.2.1, q_20.2.2.2.2.2.2.2.2.2).1) q_43 hc_43) m_Pg_valueInHand k_605 ⟨Nat.le_of_ble_eq_true rfl, Nat.le_of_ble_eq_true rfl⟩ (pm_38 (O_Fd G a h) (W_St G (sh a 1) q_10.1) (O_St G (sh a 21) (q_32, q_20.2.2.1, q_20.2.2.2.1, q_20.2.2.2.2.1, q_20.2.2.2.2.2.1, q_20.2.2.2.2.2.2.1, q_20.2.2.2.2.2.2.2.1, q_20.2.2.2.2.2.2.2.2.1, q_20.2.2.2.2.2.2.2.2.2)) (W_Pg G (sh a 22) ((q_32, q_20.2.2.1, q_20.2.2.2.1, q_20.2.2.2.2.1, q_20.2.2.2.2.2.1, q_20.2.2.2.2.2.2.1, q_20.2.2.2.2.2.2.2.1, q_20.2.2.2.2.2.2.2.2.1, q_20.2.2.2.2.2.2.2.2.2).1)) (W_Dy G (sh a 27) ((q_32, q_20.2.2.1, q_20.2.2.2.1, q_20.2.2.2.2.1, q_20.2.2.2.2.2.1, q_20.2.2.2.2.2.2.1, q_20.2.2.2.2.2.2.2.1, q_20.2.2.2.2.2.2.2.2.1, q_20.2.2.2.2.2.2.2.2.2).2.1)) (W_Wk G (sh a 35) ((q_32, q_20.2.2.1, q_20.2.2.2.1, q_20.2.2.2.2.1, q_20.2.2.2.2.2.1, q_20.2.2.2.2.2.2.1, q_20.2.2.2.2.2.2.2.1, q_20.2.2.2.2.2.2.2.2.1, q_20.2.2.2.2.2.2.2.2.2).2.2.1)) (W_Pd G (sh a 41) q_10.2.2.1) (W_Or G (sh a 43) q_10.2.2.2.1) (W_Hi G (sh a 48) q_10.2.2.2.2) X) (pm_38 (O_Fd G a h) (W_St G (sh a 1) q_10.1) (O_St G (sh a 21) (q_32, q_20.2.2.1, q_20.2.2.2.1, q_20.2.2.2.2.1, q_20.2.2.2.2.2.1, q_20.2.2.2.2.2.2.1, q_20.2.2.2.2.2.2.2.1, q_20.2.2.2.2.2.2.2.2.1, q_20.2.2.2.2.2.2.2.2.2)) (W_Pg G (sh a 22) ((q_32, q_20.2.2.1, q_20.2.2.2.1, q_20.2.2.2.2.1, q_20.2.2.2.2.2.1, q_20.2.2.2.2.2.2.1, q_20.2.2.2.2.2.2.2.1, q_20.2.2.2.2.2.2.2.2.1, q_20.2.2.2.2.2.2.2.2.2).1)) (W_Dy G (sh a 27) ((q_32, q_20.2.2.1, q_20.2.2.2.1, q_20.2.2.2.2.1, q_20.2.2.2.2.2.1, q_20.2.2.2.2.2.2.1, q_20.2.2.2.2.2.2.2.1, q_20.2.2.2.2.2.2.2.2.1, q_20.2.2.2.2.2.2.2.2.2).2.1)) (W_Wk G (sh a 35) ((q_32, q_20.2.2.1, q_20.2.2.2.1, q_20.2.2.2.2.1, q_20.2.2.2.2.2.1, q_20.2.2.2.2.2.2.1, q_20.2.2.2.2.2.2.2.1, q_20.2.2.2.2.2.2.2.2.1, q_20.2.2.2.2.2.2.2.2.2).2.2.1)) (W_Pd G (sh a 41) q_10.2.2.1) (W_Or G (sh a 43) q_10.2.2.2.1) (W_Hi G (sh a 48) q_10.2.2.2.2) X).symm 4 0 rfl rfl rfl rfl rfl (Nat.le_of_ble_eq_true rfl) hl.1 d_Fd_wouldBe_43 ⟨Nat.zero_le _, Nat.zero_le _⟩ (fun H locs hP hD hS => ?_)
    cases hf
    exact kI hx hb hr hlk hP hD hS d_Fd_wouldBe_46
  · replace hf := ob_et c_4 hf
    refine lv_iconst (v := (-1 : Int32)) hx hb d_Fd_wouldBe_7 (by decide) ?_
    cases hf
    exact kI hx hb hr hlk hP hD hS d_Fd_wouldBe_8
set_option maxHeartbeats 4000000 in
set_option maxRecDepth 100000 in
theorem t_Fd_firstNeeded (l : Launch) (G : GG) (a : Nat → Nat) (h : Nat) (X : va_W) (v : V_Fd) (q : Int32) (hf : f_Fd_firstNeeded v = some q) : MI l G y_Fd_firstNeeded c_Fd_firstNeeded 1 (some .int) (rmk 5 106) (W_Fd G a h X v) [.ref (a 0)] (W_Fd G a h X v) (q) := by
  refine ofI "FloodDiary" (by decide +kernel) rfl (Nat.le_of_ble_eq_true rfl) (fun p e s m args below meth c A ls hx hb hr hml hown hts hlk hK hN hA hP hD hS hl => ?_)
  have hl : lv_has ls 1 [(0, .ref (a 0))] := hl
  unfold f_Fd_firstNeeded at hf
  refine lv_aload_n hx hb d_Fd_firstNeeded_0 rfl (lv_at hl 0 rfl) ?_
  refine va_get (D := G.1) (ci := 8) (v := .ref (a 1)) (C := R_Fd) (T := T_Fd) (N := 6) hx hb hts in_Fd hown hK hP 0 rfl rfl 0 (by decide) (hts _ k_218) (fun _ h9 => h9) rfl d_Fd_firstNeeded_1 ?_
  obtain ⟨q_4, hc_4, hf⟩ := oc_e hf
  refine kcV (cc := c_Fd_firstNeeded) (own := "FloodDiary") (index := 131) (wc := W_St G (sh a 1) v.1) (wr := O_Fd G a h ++ (W_St G (sh a 21) v.2.1 ++ (W_Pd G (sh a 41) v.2.2.1 ++ (W_Or G (sh a 43) v.2.2.2.1 ++ (W_Hi G (sh a 48) v.2.2.2.2 ++ (X ++ (([] : va_W)))))))) (wc' := W_St G (sh a 1) v.1) (ws' := W_Fd G a h X v) hx hb hml hown hts hK hN hA hP hD hS (t_St_lowestNeeded l G (sh a 1) v.1 q_4 hc_4) m_St_lowestNeeded k_610 ⟨Nat.le_of_ble_eq_true rfl, Nat.le_of_ble_eq_true rfl⟩ (pm_12 (O_Fd G a h) (W_St G (sh a 1) v.1) (W_St G (sh a 21) v.2.1) (W_Pd G (sh a 41) v.2.2.1) (W_Or G (sh a 43) v.2.2.2.1) (W_Hi G (sh a 48) v.2.2.2.2) X) (pm_12 (O_Fd G a h) (W_St G (sh a 1) v.1) (W_St G (sh a 21) v.2.1) (W_Pd G (sh a 41) v.2.2.1) (W_Or G (sh a 43) v.2.2.2.1) (W_Hi G (sh a 48) v.2.2.2.2) X).symm 6 0 rfl rfl rfl rfl rfl (Nat.le_of_ble_eq_true rfl) hl.1 d_Fd_firstNeeded_4 ⟨Nat.zero_le _, Nat.zero_le _⟩ (fun H locs hP hD hS => ?_)
  cases hf
  exact kI hx hb hr hlk hP hD hS d_Fd_firstNeeded_7
set_option maxHeartbeats 4000000 in
set_option maxRecDepth 100000 in
theorem t_Fd_settled (l : Launch) (G : GG) (a : Nat → Nat) (h : Nat) (X : va_W) (l1 : Int32) (v : V_Fd) (q : Int32 × V_Fd) (hf : f_Fd_settled l1 v = some q) : MI l G y_Fd_settled c_Fd_settled 2 (some .int) (rmk 5 119) (W_Fd G a h X v) [.ref (a 0), .int l1] (W_Fd G a h X q.2) (q.1) := by
  refine ofI "FloodDiary" (by decide +kernel) rfl (Nat.le_of_ble_eq_true rfl) (fun p e s m args below meth c A ls hx hb hr hml hown hts hlk hK hN hA hP hD hS hl => ?_)
  have hl : lv_has ls 2 [(0, .ref (a 0)), (1, .int l1)] := hl
  unfold f_Fd_settled at hf
  refine lv_iload_n hx hb d_Fd_settled_0 rfl (lv_at hl 1 rfl) ?_
  obtain ⟨q_1, hc_1, hf⟩ := oc_e hf
  refine kcS (cc := c_Fd_settled) (own := "FloodDiary") (index := 114) (wc := ([] : va_W)) (wr := W_Fd G a h X v) (wc' := ([] : va_W)) (ws' := W_Fd G a h X v) hx hb hml hown hts hK hN hA hP hD hS (t_Fd_isPage l G l1 q_1 hc_1) m_Fd_isPage k_603 ⟨Nat.le_of_ble_eq_true rfl, Nat.le_of_ble_eq_true rfl⟩ (List.Perm.refl _) (List.Perm.refl _) rfl rfl (Nat.le_of_ble_eq_true rfl) hl.1 d_Fd_settled_1 ⟨Nat.zero_le _, Nat.zero_le _⟩ (fun H locs hP hD hS => ?_)
  refine lv_if_ne (tgt := 9) hx hb d_Fd_settled_4 (by decide) (fun c_4 => ?_) (fun c_4 => ?_)
  · replace hf := ob_ef c_4 hf
    refine lv_aload_n hx hb d_Fd_settled_9 rfl (lv_at hl 0 rfl) ?_
    refine va_get (D := G.1) (ci := 8) (v := .ref (a 1)) (C := R_Fd) (T := T_Fd) (N := 6) hx hb hts in_Fd hown hK hP 0 rfl rfl 0 (by decide) (hts _ k_218) (fun _ h9 => h9) rfl d_Fd_settled_10 ?_
    refine va_getN (D := G.1) (ci := 6) (v := .int v.1.2.2.2.1) (C := R_St) (T := T_St) (N := 9) (host := "FloodDiary") hx hb hts in_St hown hK hP 1 rfl rfl 3 (by decide) (va_Nw.use rfl (hN.1 _ nsF_8)) (fun _ h9 => h9) rfl d_Fd_settled_13 ?_
    refine lv_if_eq (tgt := 22) hx hb d_Fd_settled_16 (by decide) (fun c_16 => ?_) (fun c_16 => ?_)
    · replace hf := ob_et c_16 hf
      refine lv_aload_n hx hb d_Fd_settled_22 rfl (lv_at hl 0 rfl) ?_
      refine va_get (D := G.1) (ci := 8) (v := .ref (a 21)) (C := R_Fd) (T := T_Fd) (N := 6) hx hb hts in_Fd hown hK hP 0 rfl rfl 1 (by decide) (hts _ k_219) (fun _ h9 => h9) rfl d_Fd_settled_23 ?_
      refine lv_aload_n hx hb d_Fd_settled_26 rfl (lv_at hl 0 rfl) ?_
      refine va_get (D := G.1) (ci := 8) (v := .ref (a 1)) (C := R_Fd) (T := T_Fd) (N := 6) hx hb hts in_Fd hown hK hP 0 rfl rfl 0 (by decide) (hts _ k_218) (fun _ h9 => h9) rfl d_Fd_settled_27 ?_
      obtain ⟨q_30, hc_30, hf⟩ := oc_e hf
      refine kcVv (cc := c_Fd_settled) (own := "FloodDiary") (index := 138) (wc := W_St G (sh a 21) v.2.1 ++ W_St G (sh a 1) v.1) (wr := O_Fd G a h ++ (W_Pd G (sh a 41) v.2.2.1 ++ (W_Or G (sh a 43) v.2.2.2.1 ++ (W_Hi G (sh a 48) v.2.2.2.2 ++ (X ++ (([] : va_W))))))) (wc' := W_St G (sh a 21) q_30 ++ W_St G (sh a 1) v.1) (ws' := W_Fd G a h X (v.1, q_30, v.2.2.1, v.2.2.2.1, v.2.2.2.2)) hx hb hml hown hts hK hN hA hP hD hS (t_St_become l G (sh a 21) (sh a 1) v.2.1 v.1 q_30 hc_30) m_St_become k_598 ⟨Nat.le_of_ble_eq_true rfl, Nat.le_of_ble_eq_true rfl⟩ (pm_32 (O_Fd G a h) (W_St G (sh a 1) v.1) (W_St G (sh a 21) v.2.1) (W_Pd G (sh a 41) v.2.2.1) (W_Or G (sh a 43) v.2.2.2.1) (W_Hi G (sh a 48) v.2.2.2.2) X) (pm_32 (O_Fd G a h) (W_St G (sh a 1) v.1) (W_St G (sh a 21) q_30) (W_Pd G (sh a 41) v.2.2.1) (W_Or G (sh a 43) v.2.2.2.1) (W_Hi G (sh a 48) v.2.2.2.2) X).symm 6 0 rfl rfl rfl rfl rfl (Nat.le_of_ble_eq_true rfl) hl.1 d_Fd_settled_30 ⟨Nat.zero_le _, Nat.zero_le _⟩ (fun H locs hP hD hS => ?_)
      refine lv_aload_n hx hb d_Fd_settled_33 rfl (lv_at hl 0 rfl) ?_
      refine va_get (D := G.1) (ci := 8) (v := .ref (a 21)) (C := R_Fd) (T := T_Fd) (N := 6) hx hb hts in_Fd hown hK hP 0 rfl rfl 1 (by decide) (hts _ k_219) (fun _ h9 => h9) rfl d_Fd_settled_34 ?_
      obtain ⟨q_37, hc_37, hf⟩ := oc_e hf
      refine kcVv (cc := c_Fd_settled) (own := "FloodDiary") (index := 141) (wc := W_St G (sh a 21) q_30) (wr := O_Fd G a h ++ (W_St G (sh a 1) v.1 ++ (W_Pd G (sh a 41) v.2.2.1 ++ (W_Or G (sh a 43) v.2.2.2.1 ++ (W_Hi G (sh a 48) v.2.2.2.2 ++ (X ++ (([] : va_W)))))))) (wc' := W_St G (sh a 21) q_37) (ws' := W_Fd G a h X (v.1, q_37, v.2.2.1, v.2.2.2.1, v.2.2.2.2)) hx hb hml hown hts hK hN hA hP hD hS (t_St_tearAllOpen l G (sh a 21) q_30 q_37 hc_37) m_St_tearAllOpen k_627 ⟨Nat.le_of_ble_eq_true rfl, Nat.le_of_ble_eq_true rfl⟩ (pm_14 (O_Fd G a h) (W_St G (sh a 1) v.1) (W_St G (sh a 21) q_30) (W_Pd G (sh a 41) v.2.2.1) (W_Or G (sh a 43) v.2.2.2.1) (W_Hi G (sh a 48) v.2.2.2.2) X) (pm_14 (O_Fd G a h) (W_St G (sh a 1) v.1) (W_St G (sh a 21) q_37) (W_Pd G (sh a 41) v.2.2.1) (W_Or G (sh a 43) v.2.2.2.1) (W_Hi G (sh a 48) v.2.2.2.2) X).symm 6 0 rfl rfl rfl rfl rfl (Nat.le_of_ble_eq_true rfl) hl.1 d_Fd_settled_37 ⟨Nat.zero_le _, Nat.zero_le _⟩ (fun H locs hP hD hS => ?_)
      refine lv_aload_n hx hb d_Fd_settled_40 rfl (lv_at hl 0 rfl) ?_
      refine va_get (D := G.1) (ci := 8) (v := .ref (a 21)) (C := R_Fd) (T := T_Fd) (N := 6) hx hb hts in_Fd hown hK hP 0 rfl rfl 1 (by decide) (hts _ k_219) (fun _ h9 => h9) rfl d_Fd_settled_41 ?_
      refine va_getN (D := G.1) (ci := 6) (v := .ref (a 22)) (C := R_St) (T := T_St) (N := 9) (host := "FloodDiary") hx hb hts in_St hown hK hP 21 rfl rfl 0 (by decide) (va_Nw.use rfl (hN.1 _ nsF_5)) (fun _ h9 => h9) rfl d_Fd_settled_44 ?_
      refine lv_iload_n hx hb d_Fd_settled_47 rfl (lv_at hl 1 rfl) ?_
      obtain ⟨q_48, hc_48, hf⟩ := oc_e hf
      refine kcVv (cc := c_Fd_settled) (own := "FloodDiary") (index := 122) (wc := W_Pg G (sh a 22) q_37.1) (wr := O_Fd G a h ++ (W_St G (sh a 1) v.1 ++ (O_St G (sh a 21) q_37 ++ (W_Dy G (sh a 27) q_37.2.1 ++ (W_Wk G (sh a 35) q_37.2.2.1 ++ (W_Pd G (sh a 41) v.2.2.1 ++ (W_Or G (sh a 43) v.2.2.2.1 ++ (W_Hi G (sh a 48) v.2.2.2.2 ++ (X ++ (([] : va_W))))))))))) (wc' := W_Pg G (sh a 22) q_48) (ws' := W_Fd G a h X (v.1, (q_48, q_37.2.1, q_37.2.2.1, q_37.2.2.2.1, q_37.2.2.2.2.1, q_37.2.2.2.2.2.1, q_37.2.2.2.2.2.2.1, q_37.2.2.2.2.2.2.2.1, q_37.2.2.2.2.2.2.2.2), v.2.2.1, v.2.2.2.1, v.2.2.2.2)) hx hb hml hown hts hK hN hA hP hD hS (t_Pg_takeIntoHand l G (sh a 22) l1 q_37.1 q_48 hc_48) m_Pg_takeIntoHand k_604 ⟨Nat.le_of_ble_eq_true rfl, Nat.le_of_ble_eq_true rfl⟩ (pm_38 (O_Fd G a h) (W_St G (sh a 1) v.1) (O_St G (sh a 21) q_37) (W_Pg G (sh a 22) q_37.1) (W_Dy G (sh a 27) q_37.2.1) (W_Wk G (sh a 35) q_37.2.2.1) (W_Pd G (sh a 41) v.2.2.1) (W_Or G (sh a 43) v.2.2.2.1) (W_Hi G (sh a 48) v.2.2.2.2) X) (pm_38 (O_Fd G a h) (W_St G (sh a 1) v.1) (O_St G (sh a 21) (q_48, q_37.2.1, q_37.2.2.1, q_37.2.2.2.1, q_37.2.2.2.2.1, q_37.2.2.2.2.2.1, q_37.2.2.2.2.2.2.1, q_37.2.2.2.2.2.2.2.1, q_37.2.2.2.2.2.2.2.2)) (W_Pg G (sh a 22) ((q_48, q_37.2.1, q_37.2.2.1, q_37.2.2.2.1, q_37.2.2.2.2.1, q_37.2.2.2.2.2.1, q_37.2.2.2.2.2.2.1, q_37.2.2.2.2.2.2.2.1, q_37.2.2.2.2.2.2.2.2).1)) (W_Dy G (sh a 27) ((q_48, q_37.2.1, q_37.2.2.1, q_37.2.2.2.1, q_37.2.2.2.2.1, q_37.2.2.2.2.2.1, q_37.2.2.2.2.2.2.1, q_37.2.2.2.2.2.2.2.1, q_37.2.2.2.2.2.2.2.2).2.1)) (W_Wk G (sh a 35) ((q_48, q_37.2.1, q_37.2.2.1, q_37.2.2.2.1, q_37.2.2.2.2.1, q_37.2.2.2.2.2.1, q_37.2.2.2.2.2.2.1, q_37.2.2.2.2.2.2.2.1, q_37.2.2.2.2.2.2.2.2).2.2.1)) (W_Pd G (sh a 41) v.2.2.1) (W_Or G (sh a 43) v.2.2.2.1) (W_Hi G (sh a 48) v.2.2.2.2) X).symm 4 0 rfl rfl rfl rfl rfl (Nat.le_of_ble_eq_true rfl) hl.1 d_Fd_settled_48 ⟨Nat.zero_le _, Nat.zero_le _⟩ (fun H locs hP hD hS => ?_)
      refine lv_aload_n hx hb d_Fd_settled_51 rfl (lv_at hl 0 rfl) ?_
      refine va_get (D := G.1) (ci := 8) (v := .ref (a 21)) (C := R_Fd) (T := T_Fd) (N := 6) hx hb hts in_Fd hown hK hP 0 rfl rfl 1 (by decide) (hts _ k_219) (fun _ h9 => h9) rfl d_Fd_settled_52 ?_
      refine va_getN (D := G.1) (ci := 6) (v := .ref (a 22)) (C := R_St) (T := T_St) (N := 9) (host := "FloodDiary") hx hb hts in_St hown hK hP 21 rfl rfl 0 (by decide) (va_Nw.use rfl (hN.1 _ nsF_5)) (fun _ h9 => h9) rfl d_Fd_settled_55 ?_
      refine lv_iload_n hx hb d_Fd_settled_58 rfl (lv_at hl 1 rfl) ?_
      obtain ⟨q_59, hc_59, hf⟩ := oc_e hf
      refine kcV (cc := c_Fd_settled) (own := "FloodDiary") (index := 128) (wc := W_Pg G (sh a 22) ((q_48, q_37.2.1, q_37.2.2.1, q_37.2.2.2.1, q_37.2.2.2.2.1, q_37.2.2.2.2.2.1, q_37.2.2.2.2.2.2.1, q_37.2.2.2.2.2.2.2.1, q_37.2.2.2.2.2.2.2.2).1)) (wr := O_Fd G a h ++ (W_St G (sh a 1) v.1 ++ (O_St G (sh a 21) (q_48, q_37.2.1, q_37.2.2.1, q_37.2.2.2.1, q_37.2.2.2.2.1, q_37.2.2.2.2.2.1, q_37.2.2.2.2.2.2.1, q_37.2.2.2.2.2.2.2.1, q_37.2.2.2.2.2.2.2.2) ++ (W_Dy G (sh a 27) ((q_48, q_37.2.1, q_37.2.2.1, q_37.2.2.2.1, q_37.2.2.2.2.1, q_37.2.2.2.2.2.1, q_37.2.2.2.2.2.2.1, q_37.2.2.2.2.2.2.2.1, q_37.2.2.2.2.2.2.2.2).2.1) ++ (W_Wk G (sh a 35) ((q_48, q_37.2.1, q_37.2.2.1, q_37.2.2.2.1, q_37.2.2.2.2.1, q_37.2.2.2.2.2.1, q_37.2.2.2.2.2.2.1, q_37.2.2.2.2.2.2.2.1, q_37.2.2.2.2.2.2.2.2).2.2.1) ++ (W_Pd G (sh a 41) v.2.2.1 ++ (W_Or G (sh a 43) v.2.2.2.1 ++ (W_Hi G (sh a 48) v.2.2.2.2 ++ (X ++ (([] : va_W))))))))))) (wc' := W_Pg G (sh a 22) ((q_48, q_37.2.1, q_37.2.2.1, q_37.2.2.2.1, q_37.2.2.2.2.1, q_37.2.2.2.2.2.1, q_37.2.2.2.2.2.2.1, q_37.2.2.2.2.2.2.2.1, q_37.2.2.2.2.2.2.2.2).1)) (ws' := W_Fd G a h X (v.1, (q_48, q_37.2.1, q_37.2.2.1, q_37.2.2.2.1, q_37.2.2.2.2.1, q_37.2.2.2.2.2.1, q_37.2.2.2.2.2.2.1, q_37.2.2.2.2.2.2.2.1, q_37.2.2.2.2.2.2.2.2), v.2.2.1, v.2.2.2.1, v.2.2.2.2)) hx hb hml hown hts hK hN hA hP hD hS (t_Pg_valueInHand l G (sh a 22) l1 ((q_48, q_37.2.1, q_37.2.2.1, q_37.2.2.2.1, q_37.2.2.2.2.1, q_37.2.2.2.2.2.1, q_37.2.2.2.2.2.2.1, q_37.2.2.2.2.2.2.2.1, q_37.2.2.2.2.2.2.2.2).1) q_59 hc_59) m_Pg_valueInHand k_605 ⟨Nat.le_of_ble_eq_true rfl, Nat.le_of_ble_eq_true rfl⟩ (pm_38 (O_Fd G a h) (W_St G (sh a 1) v.1) (O_St G (sh a 21) (q_48, q_37.2.1, q_37.2.2.1, q_37.2.2.2.1, q_37.2.2.2.2.1, q_37.2.2.2.2.2.1, q_37.2.2.2.2.2.2.1, q_37.2.2.2.2.2.2.2.1, q_37.2.2.2.2.2.2.2.2)) (W_Pg G (sh a 22) ((q_48, q_37.2.1, q_37.2.2.1, q_37.2.2.2.1, q_37.2.2.2.2.1, q_37.2.2.2.2.2.1, q_37.2.2.2.2.2.2.1, q_37.2.2.2.2.2.2.2.1, q_37.2.2.2.2.2.2.2.2).1)) (W_Dy G (sh a 27) ((q_48, q_37.2.1, q_37.2.2.1, q_37.2.2.2.1, q_37.2.2.2.2.1, q_37.2.2.2.2.2.1, q_37.2.2.2.2.2.2.1, q_37.2.2.2.2.2.2.2.1, q_37.2.2.2.2.2.2.2.2).2.1)) (W_Wk G (sh a 35) ((q_48, q_37.2.1, q_37.2.2.1, q_37.2.2.2.1, q_37.2.2.2.2.1, q_37.2.2.2.2.2.1, q_37.2.2.2.2.2.2.1, q_37.2.2.2.2.2.2.2.1, q_37.2.2.2.2.2.2.2.2).2.2.1)) (W_Pd G (sh a 41) v.2.2.1) (W_Or G (sh a 43) v.2.2.2.1) (W_Hi G (sh a 48) v.2.2.2.2) X) (pm_38 (O_Fd G a h) (W_St G (sh a 1) v.1) (O_St G (sh a 21) (q_48, q_37.2.1, q_37.2.2.1, q_37.2.2.2.1, q_37.2.2.2.2.1, q_37.2.2.2.2.2.1, q_37.2.2.2.2.2.2.1, q_37.2.2.2.2.2.2.2.1, q_37.2.2.2.2.2.2.2.2)) (W_Pg G (sh a 22) ((q_48, q_37.2.1, q_37.2.2.1, q_37.2.2.2.1, q_37.2.2.2.2.1, q_37.2.2.2.2.2.1, q_37.2.2.2.2.2.2.1, q_37.2.2.2.2.2.2.2.1, q_37.2.2.2.2.2.2.2.2).1)) (W_Dy G (sh a 27) ((q_48, q_37.2.1, q_37.2.2.1, q_37.2.2.2.1, q_37.2.2.2.2.1, q_37.2.2.2.2.2.1, q_37.2.2.2.2.2.2.1, q_37.2.2.2.2.2.2.2.1, q_37.2.2.2.2.2.2.2.2).2.1)) (W_Wk G (sh a 35) ((q_48, q_37.2.1, q_37.2.2.1, q_37.2.2.2.1, q_37.2.2.2.2.1, q_37.2.2.2.2.2.1, q_37.2.2.2.2.2.2.1, q_37.2.2.2.2.2.2.2.1, q_37.2.2.2.2.2.2.2.2).2.2.1)) (W_Pd G (sh a 41) v.2.2.1) (W_Or G (sh a 43) v.2.2.2.1) (W_Hi G (sh a 48) v.2.2.2.2) X).symm 4 0 rfl rfl rfl rfl rfl (Nat.le_of_ble_eq_true rfl) hl.1 d_Fd_settled_59 ⟨Nat.zero_le _, Nat.zero_le _⟩ (fun H locs hP hD hS => ?_)
      cases hf
      exact kI hx hb hr hlk hP hD hS d_Fd_settled_62
    · replace hf := ob_ef c_16 hf
      refine lv_bipush (v := (-5 : Int32)) hx hb d_Fd_settled_19 (by decide) ?_
      cases hf
      exact kI hx hb hr hlk hP hD hS d_Fd_settled_21
  · replace hf := ob_et c_4 hf
    refine lv_iconst (v := (-1 : Int32)) hx hb d_Fd_settled_7 (by decide) ?_
    cases hf
    exact kI hx hb hr hlk hP hD hS d_Fd_settled_8
set_option maxHeartbeats 4000000 in
set_option maxRecDepth 100000 in
theorem t_Fd_put (l : Launch) (G : GG) (a : Nat → Nat) (h : Nat) (X : va_W) (l1 : Int64) (v : V_Fd) (q : Int32 × V_Fd) (hf : f_Fd_put l1 v = some q) : MI l G y_Fd_put c_Fd_put 4 (some .int) (rmk 1 25) (W_Fd G a h X v) [.ref (a 0), .long l1] (W_Fd G a h X q.2) (q.1) := by
  refine ofI "FloodDiary" (by decide +kernel) rfl (Nat.le_of_ble_eq_true rfl) (fun p e s m args below meth c A ls hx hb hr hml hown hts hlk hK hN hA hP hD hS hl => ?_)
  have hl : lv_has ls 4 [(0, .ref (a 0)), (1, .long l1)] := hl
  unfold f_Fd_put at hf
  refine lv_lload_n hx hb d_Fd_put_0 rfl (lv_at hl 1 rfl) ?_
  obtain ⟨q_1, hc_1, hf⟩ := oc_e hf
  refine kcS (cc := c_Fd_put) (own := "FloodDiary") (index := 144) (wc := ([] : va_W)) (wr := W_Fd G a h X v) (wc' := ([] : va_W)) (ws' := W_Fd G a h X v) hx hb hml hown hts hK hN hA hP hD hS (t_Fd_charactersIn l G l1 q_1 hc_1) m_Fd_charactersIn k_635 ⟨Nat.le_of_ble_eq_true rfl, Nat.le_of_ble_eq_true rfl⟩ (List.Perm.refl _) (List.Perm.refl _) rfl rfl (Nat.le_of_ble_eq_true rfl) hl.1 d_Fd_put_1 ⟨Nat.zero_le _, Nat.zero_le _⟩ (fun H locs hP hD hS => ?_)
  refine lv_istore_n (lv' := [(3, .int q_1), (0, .ref (a 0)), (1, .long l1)]) hx hb d_Fd_put_4 rfl hl (by decide) rfl (fun ls hl => ?_)
  refine lv_iload_n hx hb d_Fd_put_5 rfl (lv_at hl 0 rfl) ?_
  refine lv_if_ne (tgt := 12) hx hb d_Fd_put_6 (by decide) (fun c_6 => ?_) (fun c_6 => ?_)
  · replace hf := ob_ef c_6 hf
    refine lv_aload_n hx hb d_Fd_put_12 rfl (lv_at hl 1 rfl) ?_
    refine va_get (D := G.1) (ci := 8) (v := .ref (a 41)) (C := R_Fd) (T := T_Fd) (N := 6) hx hb hts in_Fd hown hK hP 0 rfl rfl 4 (by decide) (hts _ k_222) (fun _ h9 => h9) rfl d_Fd_put_13 ?_
    refine lv_iload_n hx hb d_Fd_put_16 rfl (lv_at hl 0 rfl) ?_
    obtain ⟨q_17, hc_17, hf⟩ := oc_e hf
    refine kcV (cc := c_Fd_put) (own := "FloodDiary") (index := 148) (wc := W_Pd G (sh a 41) v.2.2.1) (wr := O_Fd G a h ++ (W_St G (sh a 1) v.1 ++ (W_St G (sh a 21) v.2.1 ++ (W_Or G (sh a 43) v.2.2.2.1 ++ (W_Hi G (sh a 48) v.2.2.2.2 ++ (X ++ (([] : va_W)))))))) (wc' := W_Pd G (sh a 41) v.2.2.1) (ws' := W_Fd G a h X v) hx hb hml hown hts hK hN hA hP hD hS (t_Pd_hasRoomFor l G (sh a 41) q_1 v.2.2.1 q_17 hc_17) m_Pd_hasRoomFor k_639 ⟨Nat.le_of_ble_eq_true rfl, Nat.le_of_ble_eq_true rfl⟩ (pm_37 (O_Fd G a h) (W_St G (sh a 1) v.1) (W_St G (sh a 21) v.2.1) (W_Pd G (sh a 41) v.2.2.1) (W_Or G (sh a 43) v.2.2.2.1) (W_Hi G (sh a 48) v.2.2.2.2) X) (pm_37 (O_Fd G a h) (W_St G (sh a 1) v.1) (W_St G (sh a 21) v.2.1) (W_Pd G (sh a 41) v.2.2.1) (W_Or G (sh a 43) v.2.2.2.1) (W_Hi G (sh a 48) v.2.2.2.2) X).symm 3 0 rfl rfl rfl rfl rfl (Nat.le_of_ble_eq_true rfl) hl.1 d_Fd_put_17 ⟨Nat.zero_le _, Nat.zero_le _⟩ (fun H locs hP hD hS => ?_)
    refine lv_if_ne (tgt := 26) hx hb d_Fd_put_20 (by decide) (fun c_20 => ?_) (fun c_20 => ?_)
    · replace hf := ob_ef c_20 hf
      refine lv_aload_n hx hb d_Fd_put_26 rfl (lv_at hl 1 rfl) ?_
      refine va_get (D := G.1) (ci := 8) (v := .ref (a 41)) (C := R_Fd) (T := T_Fd) (N := 6) hx hb hts in_Fd hown hK hP 0 rfl rfl 4 (by decide) (hts _ k_222) (fun _ h9 => h9) rfl d_Fd_put_27 ?_
      refine lv_lload_n hx hb d_Fd_put_30 rfl (lv_at hl 2 rfl) ?_
      refine lv_iload_n hx hb d_Fd_put_31 rfl (lv_at hl 0 rfl) ?_
      obtain ⟨q_32, hc_32, hf⟩ := oc_e hf
      refine kcVv (cc := c_Fd_put) (own := "FloodDiary") (index := 151) (wc := W_Pd G (sh a 41) v.2.2.1) (wr := O_Fd G a h ++ (W_St G (sh a 1) v.1 ++ (W_St G (sh a 21) v.2.1 ++ (W_Or G (sh a 43) v.2.2.2.1 ++ (W_Hi G (sh a 48) v.2.2.2.2 ++ (X ++ (([] : va_W)))))))) (wc' := W_Pd G (sh a 41) q_32) (ws' := W_Fd G a h X (v.1, v.2.1, q_32, v.2.2.2.1, v.2.2.2.2)) hx hb hml hown hts hK hN hA hP hD hS (t_Pd_append l G (sh a 41) l1 q_1 v.2.2.1 q_32 hc_32) m_Pd_append k_643 ⟨Nat.le_of_ble_eq_true rfl, Nat.le_of_ble_eq_true rfl⟩ (pm_37 (O_Fd G a h) (W_St G (sh a 1) v.1) (W_St G (sh a 21) v.2.1) (W_Pd G (sh a 41) v.2.2.1) (W_Or G (sh a 43) v.2.2.2.1) (W_Hi G (sh a 48) v.2.2.2.2) X) (pm_37 (O_Fd G a h) (W_St G (sh a 1) v.1) (W_St G (sh a 21) v.2.1) (W_Pd G (sh a 41) q_32) (W_Or G (sh a 43) v.2.2.2.1) (W_Hi G (sh a 48) v.2.2.2.2) X).symm 3 0 rfl rfl rfl rfl rfl (Nat.le_of_ble_eq_true rfl) hl.1 d_Fd_put_32 ⟨Nat.zero_le _, Nat.zero_le _⟩ (fun H locs hP hD hS => ?_)
      refine lv_aload_n hx hb d_Fd_put_35 rfl (lv_at hl 1 rfl) ?_
      refine va_get (D := G.1) (ci := 8) (v := .ref (a 41)) (C := R_Fd) (T := T_Fd) (N := 6) hx hb hts in_Fd hown hK hP 0 rfl rfl 4 (by decide) (hts _ k_222) (fun _ h9 => h9) rfl d_Fd_put_36 ?_
      obtain ⟨q_39, hc_39, hf⟩ := oc_e hf
      refine kcV (cc := c_Fd_put) (own := "FloodDiary") (index := 104) (wc := W_Pd G (sh a 41) q_32) (wr := O_Fd G a h ++ (W_St G (sh a 1) v.1 ++ (W_St G (sh a 21) v.2.1 ++ (W_Or G (sh a 43) v.2.2.2.1 ++ (W_Hi G (sh a 48) v.2.2.2.2 ++ (X ++ (([] : va_W)))))))) (wc' := W_Pd G (sh a 41) q_32) (ws' := W_Fd G a h X (v.1, v.2.1, q_32, v.2.2.2.1, v.2.2.2.2)) hx hb hml hown hts hK hN hA hP hD hS (t_Pd_length l G (sh a 41) q_32 q_39 hc_39) m_Pd_length k_569 ⟨Nat.le_of_ble_eq_true rfl, Nat.le_of_ble_eq_true rfl⟩ (pm_37 (O_Fd G a h) (W_St G (sh a 1) v.1) (W_St G (sh a 21) v.2.1) (W_Pd G (sh a 41) q_32) (W_Or G (sh a 43) v.2.2.2.1) (W_Hi G (sh a 48) v.2.2.2.2) X) (pm_37 (O_Fd G a h) (W_St G (sh a 1) v.1) (W_St G (sh a 21) v.2.1) (W_Pd G (sh a 41) q_32) (W_Or G (sh a 43) v.2.2.2.1) (W_Hi G (sh a 48) v.2.2.2.2) X).symm 3 0 rfl rfl rfl rfl rfl (Nat.le_of_ble_eq_true rfl) hl.1 d_Fd_put_39 ⟨Nat.zero_le _, Nat.zero_le _⟩ (fun H locs hP hD hS => ?_)
      cases hf
      exact kI hx hb hr hlk hP hD hS d_Fd_put_42
    · replace hf := ob_et c_20 hf
      refine lv_bipush (v := (-4 : Int32)) hx hb d_Fd_put_23 (by decide) ?_
      cases hf
      exact kI hx hb hr hlk hP hD hS d_Fd_put_25
  · replace hf := ob_et c_6 hf
    refine lv_bipush (v := (-2 : Int32)) hx hb d_Fd_put_9 (by decide) ?_
    cases hf
    exact kI hx hb hr hlk hP hD hS d_Fd_put_11
set_option maxHeartbeats 4000000 in
set_option maxRecDepth 100000 in
theorem t_Fd_wipe (l : Launch) (G : GG) (a : Nat → Nat) (h : Nat) (X : va_W) (v : V_Fd) (q : Int32 × V_Fd) (hf : f_Fd_wipe v = some q) : MI l G y_Fd_wipe c_Fd_wipe 2 (some .int) (rmk 1 20) (W_Fd G a h X v) [.ref (a 0)] (W_Fd G a h X q.2) (q.1) := by
  refine ofI "FloodDiary" (by decide +kernel) rfl (Nat.le_of_ble_eq_true rfl) (fun p e s m args below meth c A ls hx hb hr hml hown hts hlk hK hN hA hP hD hS hl => ?_)
  have hl : lv_has ls 2 [(0, .ref (a 0))] := hl
  unfold f_Fd_wipe at hf
  refine lv_aload_n hx hb d_Fd_wipe_0 rfl (lv_at hl 0 rfl) ?_
  refine va_get (D := G.1) (ci := 8) (v := .ref (a 41)) (C := R_Fd) (T := T_Fd) (N := 6) hx hb hts in_Fd hown hK hP 0 rfl rfl 4 (by decide) (hts _ k_222) (fun _ h9 => h9) rfl d_Fd_wipe_1 ?_
  obtain ⟨q_4, hc_4, hf⟩ := oc_e hf
  refine kcV (cc := c_Fd_wipe) (own := "FloodDiary") (index := 104) (wc := W_Pd G (sh a 41) v.2.2.1) (wr := O_Fd G a h ++ (W_St G (sh a 1) v.1 ++ (W_St G (sh a 21) v.2.1 ++ (W_Or G (sh a 43) v.2.2.2.1 ++ (W_Hi G (sh a 48) v.2.2.2.2 ++ (X ++ (([] : va_W)))))))) (wc' := W_Pd G (sh a 41) v.2.2.1) (ws' := W_Fd G a h X v) hx hb hml hown hts hK hN hA hP hD hS (t_Pd_length l G (sh a 41) v.2.2.1 q_4 hc_4) m_Pd_length k_569 ⟨Nat.le_of_ble_eq_true rfl, Nat.le_of_ble_eq_true rfl⟩ (pm_37 (O_Fd G a h) (W_St G (sh a 1) v.1) (W_St G (sh a 21) v.2.1) (W_Pd G (sh a 41) v.2.2.1) (W_Or G (sh a 43) v.2.2.2.1) (W_Hi G (sh a 48) v.2.2.2.2) X) (pm_37 (O_Fd G a h) (W_St G (sh a 1) v.1) (W_St G (sh a 21) v.2.1) (W_Pd G (sh a 41) v.2.2.1) (W_Or G (sh a 43) v.2.2.2.1) (W_Hi G (sh a 48) v.2.2.2.2) X).symm 3 0 rfl rfl rfl rfl rfl (Nat.le_of_ble_eq_true rfl) hl.1 d_Fd_wipe_4 ⟨Nat.zero_le _, Nat.zero_le _⟩ (fun H locs hP hD hS => ?_)
  refine lv_istore_n (lv' := [(1, .int q_4), (0, .ref (a 0))]) hx hb d_Fd_wipe_7 rfl hl (by decide) rfl (fun ls hl => ?_)
  refine lv_aload_n hx hb d_Fd_wipe_8 rfl (lv_at hl 1 rfl) ?_
  refine va_get (D := G.1) (ci := 8) (v := .ref (a 41)) (C := R_Fd) (T := T_Fd) (N := 6) hx hb hts in_Fd hown hK hP 0 rfl rfl 4 (by decide) (hts _ k_222) (fun _ h9 => h9) rfl d_Fd_wipe_9 ?_
  obtain ⟨q_12, hc_12, hf⟩ := oc_e hf
  refine kcVv (cc := c_Fd_wipe) (own := "FloodDiary") (index := 155) (wc := W_Pd G (sh a 41) v.2.2.1) (wr := O_Fd G a h ++ (W_St G (sh a 1) v.1 ++ (W_St G (sh a 21) v.2.1 ++ (W_Or G (sh a 43) v.2.2.2.1 ++ (W_Hi G (sh a 48) v.2.2.2.2 ++ (X ++ (([] : va_W)))))))) (wc' := W_Pd G (sh a 41) q_12) (ws' := W_Fd G a h X (v.1, v.2.1, q_12, v.2.2.2.1, v.2.2.2.2)) hx hb hml hown hts hK hN hA hP hD hS (t_Pd_empty l G (sh a 41) v.2.2.1 q_12 hc_12) m_Pd_empty k_652 ⟨Nat.le_of_ble_eq_true rfl, Nat.le_of_ble_eq_true rfl⟩ (pm_37 (O_Fd G a h) (W_St G (sh a 1) v.1) (W_St G (sh a 21) v.2.1) (W_Pd G (sh a 41) v.2.2.1) (W_Or G (sh a 43) v.2.2.2.1) (W_Hi G (sh a 48) v.2.2.2.2) X) (pm_37 (O_Fd G a h) (W_St G (sh a 1) v.1) (W_St G (sh a 21) v.2.1) (W_Pd G (sh a 41) q_12) (W_Or G (sh a 43) v.2.2.2.1) (W_Hi G (sh a 48) v.2.2.2.2) X).symm 3 0 rfl rfl rfl rfl rfl (Nat.le_of_ble_eq_true rfl) hl.1 d_Fd_wipe_12 ⟨Nat.zero_le _, Nat.zero_le _⟩ (fun H locs hP hD hS => ?_)
  refine lv_iload_n hx hb d_Fd_wipe_15 rfl (lv_at hl 0 rfl) ?_
  cases hf
  exact kI hx hb hr hlk hP hD hS d_Fd_wipe_16
theorem pm_39 (x0 x1 x2 x3 x4 x5 x6 : va_W) : List.Perm (x0 ++ (x1 ++ (x2 ++ (x3 ++ (x4 ++ (x5 ++ (x6 ++ (([] : va_W))))))))) ((x4 ++ x3) ++ (x0 ++ (x1 ++ (x2 ++ (x5 ++ (x6 ++ (([] : va_W)))))))) := prm (fun d z => by first | (simp only [List.count_append, List.count_nil]; omega) | simp only [List.count_append, List.count_nil])
theorem pm_40 (x0 x1 x2 x3 x4 x5 x6 : va_W) : List.Perm (x0 ++ (x1 ++ (x2 ++ (x3 ++ (x4 ++ (x5 ++ (x6 ++ (([] : va_W))))))))) ((x4) ++ (x0 ++ (x1 ++ (x2 ++ (x3 ++ (x5 ++ (x6 ++ (([] : va_W))))))))) := prm (fun d z => by first | (simp only [List.count_append, List.count_nil]; omega) | simp only [List.count_append, List.count_nil])
set_option maxHeartbeats 4000000 in
set_option maxRecDepth 100000 in
theorem t_Fd_fault (l : Launch) (G : GG) (a : Nat → Nat) (h : Nat) (X : va_W) (v : V_Fd) (q : Int32 × V_Fd) (hf : f_Fd_fault v = some q) : MI l G y_Fd_fault c_Fd_fault 1 (some .int) (rmk 4 88) (W_Fd G a h X v) [.ref (a 0)] (W_Fd G a h X q.2) (q.1) := by
  refine ofI "FloodDiary" (by decide +kernel) rfl (Nat.le_of_ble_eq_true rfl) (fun p e s m args below meth c A ls hx hb hr hml hown hts hlk hK hN hA hP hD hS hl => ?_)
  have hl : lv_has ls 1 [(0, .ref (a 0))] := hl
  unfold f_Fd_fault at hf
  refine lv_aload_n hx hb d_Fd_fault_0 rfl (lv_at hl 0 rfl) ?_
  refine va_get (D := G.1) (ci := 8) (v := .ref (a 43)) (C := R_Fd) (T := T_Fd) (N := 6) hx hb hts in_Fd hown hK hP 0 rfl rfl 5 (by decide) (hts _ k_223) (fun _ h9 => h9) rfl d_Fd_fault_1 ?_
  refine lv_aload_n hx hb d_Fd_fault_4 rfl (lv_at hl 0 rfl) ?_
  refine va_get (D := G.1) (ci := 8) (v := .ref (a 41)) (C := R_Fd) (T := T_Fd) (N := 6) hx hb hts in_Fd hown hK hP 0 rfl rfl 4 (by decide) (hts _ k_222) (fun _ h9 => h9) rfl d_Fd_fault_5 ?_
  obtain ⟨q_8, hc_8, hf⟩ := oc_e hf
  refine kcVv (cc := c_Fd_fault) (own := "FloodDiary") (index := 158) (wc := W_Or G (sh a 43) v.2.2.2.1 ++ W_Pd G (sh a 41) v.2.2.1) (wr := O_Fd G a h ++ (W_St G (sh a 1) v.1 ++ (W_St G (sh a 21) v.2.1 ++ (W_Hi G (sh a 48) v.2.2.2.2 ++ (X ++ (([] : va_W))))))) (wc' := W_Or G (sh a 43) q_8 ++ W_Pd G (sh a 41) v.2.2.1) (ws' := W_Fd G a h X (v.1, v.2.1, v.2.2.1, q_8, v.2.2.2.2)) hx hb hml hown hts hK hN hA hP hD hS (t_Or_read l G (sh a 43) (sh a 41) v.2.2.2.1 v.2.2.1 q_8 hc_8) m_Or_read k_660 ⟨Nat.le_of_ble_eq_true rfl, Nat.le_of_ble_eq_true rfl⟩ (pm_39 (O_Fd G a h) (W_St G (sh a 1) v.1) (W_St G (sh a 21) v.2.1) (W_Pd G (sh a 41) v.2.2.1) (W_Or G (sh a 43) v.2.2.2.1) (W_Hi G (sh a 48) v.2.2.2.2) X) (pm_39 (O_Fd G a h) (W_St G (sh a 1) v.1) (W_St G (sh a 21) v.2.1) (W_Pd G (sh a 41) v.2.2.1) (W_Or G (sh a 43) q_8) (W_Hi G (sh a 48) v.2.2.2.2) X).symm 2 0 rfl rfl rfl rfl rfl (Nat.le_of_ble_eq_true rfl) hl.1 d_Fd_fault_8 ⟨Nat.zero_le _, Nat.zero_le _⟩ (fun H locs hP hD hS => ?_)
  refine lv_aload_n hx hb d_Fd_fault_11 rfl (lv_at hl 0 rfl) ?_
  refine va_get (D := G.1) (ci := 8) (v := .ref (a 43)) (C := R_Fd) (T := T_Fd) (N := 6) hx hb hts in_Fd hown hK hP 0 rfl rfl 5 (by decide) (hts _ k_223) (fun _ h9 => h9) rfl d_Fd_fault_12 ?_
  obtain ⟨q_15, hc_15, hf⟩ := oc_e hf
  refine kcV (cc := c_Fd_fault) (own := "FloodDiary") (index := 162) (wc := W_Or G (sh a 43) q_8) (wr := O_Fd G a h ++ (W_St G (sh a 1) v.1 ++ (W_St G (sh a 21) v.2.1 ++ (W_Pd G (sh a 41) v.2.2.1 ++ (W_Hi G (sh a 48) v.2.2.2.2 ++ (X ++ (([] : va_W)))))))) (wc' := W_Or G (sh a 43) q_8) (ws' := W_Fd G a h X (v.1, v.2.1, v.2.2.1, q_8, v.2.2.2.2)) hx hb hml hown hts hK hN hA hP hD hS (t_Or_firstFault l G (sh a 43) q_8 q_15 hc_15) m_Or_firstFault k_689 ⟨Nat.le_of_ble_eq_true rfl, Nat.le_of_ble_eq_true rfl⟩ (pm_40 (O_Fd G a h) (W_St G (sh a 1) v.1) (W_St G (sh a 21) v.2.1) (W_Pd G (sh a 41) v.2.2.1) (W_Or G (sh a 43) q_8) (W_Hi G (sh a 48) v.2.2.2.2) X) (pm_40 (O_Fd G a h) (W_St G (sh a 1) v.1) (W_St G (sh a 21) v.2.1) (W_Pd G (sh a 41) v.2.2.1) (W_Or G (sh a 43) q_8) (W_Hi G (sh a 48) v.2.2.2.2) X).symm 2 0 rfl rfl rfl rfl rfl (Nat.le_of_ble_eq_true rfl) hl.1 d_Fd_fault_15 ⟨Nat.zero_le _, Nat.zero_le _⟩ (fun H locs hP hD hS => ?_)
  cases hf
  exact kI hx hb hr hlk hP hD hS d_Fd_fault_18
set_option maxHeartbeats 4000000 in
set_option maxRecDepth 100000 in
theorem t_Fd_carryOut (l : Launch) (G : GG) (a : Nat → Nat) (h : Nat) (X : va_W) (v : V_Fd) (q : Int32 × V_Fd) (hf : f_Fd_carryOut v = some q) : MI l G y_Fd_carryOut c_Fd_carryOut 2 (some .int) (rmk 6 141) (W_Fd G a h X v) [.ref (a 0)] (W_Fd G a h X q.2) (q.1) := by
  refine ofI "FloodDiary" (by decide +kernel) rfl (Nat.le_of_ble_eq_true rfl) (fun p e s m args below meth c A ls hx hb hr hml hown hts hlk hK hN hA hP hD hS hl => ?_)
  have hl : lv_has ls 2 [(0, .ref (a 0))] := hl
  have J_39 : ∀ (n_39 : Nat) (l1 : Int32) (v : V_Fd) (H : Heap) (locs : List Loc) (ls : Array Slot), va_P G.1 vwCl (W_Fd G a h X v) H → va_D A (W_Fd G a h X v) → va_S A s.heap H locs → lv_has ls 2 [(0, .ref (a 0)), (1, .int l1)] → f_Fd_carryOut_39 n_39 l1 v = some q → W p l e (rmk 6 141) s m args below meth c H locs 0 0 (MQ below (qI G A (W_Fd G a h X q.2) (q.1)) args s 0 0 A) (F0 m 39 ls []) := by
    intro n_39
    induction n_39 with
    | zero => intro l1 v H locs ls hP hD hS hl hf; exact absurd hf (by unfold f_Fd_carryOut_39; exact fun z => by cases z)
    | succ n_39 ih_39 =>
      intro l1 v H locs ls hP hD hS hl hf
      rw [f_Fd_carryOut_39] at hf
      refine lv_iload_n hx hb d_Fd_carryOut_39 rfl (lv_at hl 1 rfl) ?_
      refine lv_aload_n hx hb d_Fd_carryOut_40 rfl (lv_at hl 0 rfl) ?_
      refine va_get (D := G.1) (ci := 8) (v := .ref (a 43)) (C := R_Fd) (T := T_Fd) (N := 6) hx hb hts in_Fd hown hK hP 0 rfl rfl 5 (by decide) (hts _ k_223) (fun _ h9 => h9) rfl d_Fd_carryOut_41 ?_
      obtain ⟨q_44, hc_44, hf⟩ := oc_e hf
      refine kcV (cc := c_Fd_carryOut) (own := "FloodDiary") (index := 165) (wc := W_Or G (sh a 43) v.2.2.2.1) (wr := O_Fd G a h ++ (W_St G (sh a 1) v.1 ++ (W_St G (sh a 21) v.2.1 ++ (W_Pd G (sh a 41) v.2.2.1 ++ (W_Hi G (sh a 48) v.2.2.2.2 ++ (X ++ (([] : va_W)))))))) (wc' := W_Or G (sh a 43) v.2.2.2.1) (ws' := W_Fd G a h X v) hx hb hml hown hts hK hN hA hP hD hS (t_Or_length l G (sh a 43) v.2.2.2.1 q_44 hc_44) m_Or_length k_697 ⟨Nat.le_of_ble_eq_true rfl, Nat.le_of_ble_eq_true rfl⟩ (pm_40 (O_Fd G a h) (W_St G (sh a 1) v.1) (W_St G (sh a 21) v.2.1) (W_Pd G (sh a 41) v.2.2.1) (W_Or G (sh a 43) v.2.2.2.1) (W_Hi G (sh a 48) v.2.2.2.2) X) (pm_40 (O_Fd G a h) (W_St G (sh a 1) v.1) (W_St G (sh a 21) v.2.1) (W_Pd G (sh a 41) v.2.2.1) (W_Or G (sh a 43) v.2.2.2.1) (W_Hi G (sh a 48) v.2.2.2.2) X).symm 2 0 rfl rfl rfl rfl rfl (Nat.le_of_ble_eq_true rfl) hl.1 d_Fd_carryOut_44 ⟨Nat.zero_le _, Nat.zero_le _⟩ (fun H locs hP hD hS => ?_)
      refine lv_icmp_ge (tgt := 71) hx hb d_Fd_carryOut_47 (by decide) (fun c_47 => ?_) (fun c_47 => ?_)
      · replace hf := ob_et c_47 hf
        refine lv_aload_n hx hb d_Fd_carryOut_71 rfl (lv_at hl 0 rfl) ?_
        refine va_get (D := G.1) (ci := 8) (v := .ref (a 41)) (C := R_Fd) (T := T_Fd) (N := 6) hx hb hts in_Fd hown hK hP 0 rfl rfl 4 (by decide) (hts _ k_222) (fun _ h9 => h9) rfl d_Fd_carryOut_72 ?_
        obtain ⟨q_75, hc_75, hf⟩ := oc_e hf
        refine kcVv (cc := c_Fd_carryOut) (own := "FloodDiary") (index := 155) (wc := W_Pd G (sh a 41) v.2.2.1) (wr := O_Fd G a h ++ (W_St G (sh a 1) v.1 ++ (W_St G (sh a 21) v.2.1 ++ (W_Or G (sh a 43) v.2.2.2.1 ++ (W_Hi G (sh a 48) v.2.2.2.2 ++ (X ++ (([] : va_W)))))))) (wc' := W_Pd G (sh a 41) q_75) (ws' := W_Fd G a h X (v.1, v.2.1, q_75, v.2.2.2.1, v.2.2.2.2)) hx hb hml hown hts hK hN hA hP hD hS (t_Pd_empty l G (sh a 41) v.2.2.1 q_75 hc_75) m_Pd_empty k_652 ⟨Nat.le_of_ble_eq_true rfl, Nat.le_of_ble_eq_true rfl⟩ (pm_37 (O_Fd G a h) (W_St G (sh a 1) v.1) (W_St G (sh a 21) v.2.1) (W_Pd G (sh a 41) v.2.2.1) (W_Or G (sh a 43) v.2.2.2.1) (W_Hi G (sh a 48) v.2.2.2.2) X) (pm_37 (O_Fd G a h) (W_St G (sh a 1) v.1) (W_St G (sh a 21) v.2.1) (W_Pd G (sh a 41) q_75) (W_Or G (sh a 43) v.2.2.2.1) (W_Hi G (sh a 48) v.2.2.2.2) X).symm 3 0 rfl rfl rfl rfl rfl (Nat.le_of_ble_eq_true rfl) hl.1 d_Fd_carryOut_75 ⟨Nat.zero_le _, Nat.zero_le _⟩ (fun H locs hP hD hS => ?_)
        refine lv_aload_n hx hb d_Fd_carryOut_78 rfl (lv_at hl 0 rfl) ?_
        refine va_get (D := G.1) (ci := 8) (v := .ref (a 48)) (C := R_Fd) (T := T_Fd) (N := 6) hx hb hts in_Fd hown hK hP 0 rfl rfl 2 (by decide) (hts _ k_220) (fun _ h9 => h9) rfl d_Fd_carryOut_79 ?_
        refine lv_iload_n hx hb d_Fd_carryOut_82 rfl (lv_at hl 1 rfl) ?_
        obtain ⟨q_83, hc_83, hf⟩ := oc_e hf
        refine kcV (cc := c_Fd_carryOut) (own := "FloodDiary") (index := 55) (wc := W_Hi G (sh a 48) v.2.2.2.2) (wr := O_Fd G a h ++ (W_St G (sh a 1) v.1 ++ (W_St G (sh a 21) v.2.1 ++ (W_Pd G (sh a 41) q_75 ++ (W_Or G (sh a 43) v.2.2.2.1 ++ (X ++ (([] : va_W)))))))) (wc' := W_Hi G (sh a 48) q_83.2) (ws' := W_Fd G a h X (v.1, v.2.1, q_75, v.2.2.2.1, q_83.2)) hx hb hml hown hts hK hN hA hP hD hS (t_Hi_record l G (sh a 48) l1 v.2.2.2.2 q_83 hc_83) m_Hi_record k_298 ⟨Nat.le_of_ble_eq_true rfl, Nat.le_of_ble_eq_true rfl⟩ (pm_34 (O_Fd G a h) (W_St G (sh a 1) v.1) (W_St G (sh a 21) v.2.1) (W_Pd G (sh a 41) q_75) (W_Or G (sh a 43) v.2.2.2.1) (W_Hi G (sh a 48) v.2.2.2.2) X) (pm_34 (O_Fd G a h) (W_St G (sh a 1) v.1) (W_St G (sh a 21) v.2.1) (W_Pd G (sh a 41) q_75) (W_Or G (sh a 43) v.2.2.2.1) (W_Hi G (sh a 48) q_83.2) X).symm 1 0 rfl rfl rfl rfl rfl (Nat.le_of_ble_eq_true rfl) hl.1 d_Fd_carryOut_83 ⟨Nat.zero_le _, Nat.zero_le _⟩ (fun H locs hP hD hS => ?_)
        cases hf
        exact kI hx hb hr hlk hP hD hS d_Fd_carryOut_86
      · replace hf := ob_ef c_47 hf
        refine lv_aload_n hx hb d_Fd_carryOut_50 rfl (lv_at hl 0 rfl) ?_
        refine va_get (D := G.1) (ci := 8) (v := .ref (a 43)) (C := R_Fd) (T := T_Fd) (N := 6) hx hb hts in_Fd hown hK hP 0 rfl rfl 5 (by decide) (hts _ k_223) (fun _ h9 => h9) rfl d_Fd_carryOut_51 ?_
        refine lv_iload_n hx hb d_Fd_carryOut_54 rfl (lv_at hl 1 rfl) ?_
        refine lv_aload_n hx hb d_Fd_carryOut_55 rfl (lv_at hl 0 rfl) ?_
        refine va_get (D := G.1) (ci := 8) (v := .ref (a 1)) (C := R_Fd) (T := T_Fd) (N := 6) hx hb hts in_Fd hown hK hP 0 rfl rfl 0 (by decide) (hts _ k_218) (fun _ h9 => h9) rfl d_Fd_carryOut_56 ?_
        obtain ⟨q_59, hc_59, hf⟩ := oc_e hf
        refine kcV (cc := c_Fd_carryOut) (own := "FloodDiary") (index := 166) (wc := W_Or G (sh a 43) v.2.2.2.1 ++ W_St G (sh a 1) v.1) (wr := O_Fd G a h ++ (W_St G (sh a 21) v.2.1 ++ (W_Pd G (sh a 41) v.2.2.1 ++ (W_Hi G (sh a 48) v.2.2.2.2 ++ (X ++ (([] : va_W))))))) (wc' := W_Or G (sh a 43) v.2.2.2.1 ++ W_St G (sh a 1) q_59.2) (ws' := W_Fd G a h X (q_59.2, v.2.1, v.2.2.1, v.2.2.2.1, v.2.2.2.2)) hx hb hml hown hts hK hN hA hP hD hS (t_Or_obey l G (sh a 43) (sh a 1) l1 v.2.2.2.1 v.1 q_59 hc_59) m_Or_obey k_701 ⟨Nat.le_of_ble_eq_true rfl, Nat.le_of_ble_eq_true rfl⟩ (pm_17 (O_Fd G a h) (W_St G (sh a 1) v.1) (W_St G (sh a 21) v.2.1) (W_Pd G (sh a 41) v.2.2.1) (W_Or G (sh a 43) v.2.2.2.1) (W_Hi G (sh a 48) v.2.2.2.2) X) (pm_17 (O_Fd G a h) (W_St G (sh a 1) q_59.2) (W_St G (sh a 21) v.2.1) (W_Pd G (sh a 41) v.2.2.1) (W_Or G (sh a 43) v.2.2.2.1) (W_Hi G (sh a 48) v.2.2.2.2) X).symm 2 0 rfl rfl rfl rfl rfl (Nat.le_of_ble_eq_true rfl) hl.1 d_Fd_carryOut_59 ⟨Nat.zero_le _, Nat.zero_le _⟩ (fun H locs hP hD hS => ?_)
        refine lv_if_lt (tgt := 71) hx hb d_Fd_carryOut_62 (by decide) (fun c_62 => ?_) (fun c_62 => ?_)
        · replace hf := ob_et c_62 hf
          refine lv_aload_n hx hb d_Fd_carryOut_71 rfl (lv_at hl 0 rfl) ?_
          refine va_get (D := G.1) (ci := 8) (v := .ref (a 41)) (C := R_Fd) (T := T_Fd) (N := 6) hx hb hts in_Fd hown hK hP 0 rfl rfl 4 (by decide) (hts _ k_222) (fun _ h9 => h9) rfl d_Fd_carryOut_72 ?_
          obtain ⟨q_75, hc_75, hf⟩ := oc_e hf
          refine kcVv (cc := c_Fd_carryOut) (own := "FloodDiary") (index := 155) (wc := W_Pd G (sh a 41) v.2.2.1) (wr := O_Fd G a h ++ (W_St G (sh a 1) q_59.2 ++ (W_St G (sh a 21) v.2.1 ++ (W_Or G (sh a 43) v.2.2.2.1 ++ (W_Hi G (sh a 48) v.2.2.2.2 ++ (X ++ (([] : va_W)))))))) (wc' := W_Pd G (sh a 41) q_75) (ws' := W_Fd G a h X (q_59.2, v.2.1, q_75, v.2.2.2.1, v.2.2.2.2)) hx hb hml hown hts hK hN hA hP hD hS (t_Pd_empty l G (sh a 41) v.2.2.1 q_75 hc_75) m_Pd_empty k_652 ⟨Nat.le_of_ble_eq_true rfl, Nat.le_of_ble_eq_true rfl⟩ (pm_37 (O_Fd G a h) (W_St G (sh a 1) q_59.2) (W_St G (sh a 21) v.2.1) (W_Pd G (sh a 41) v.2.2.1) (W_Or G (sh a 43) v.2.2.2.1) (W_Hi G (sh a 48) v.2.2.2.2) X) (pm_37 (O_Fd G a h) (W_St G (sh a 1) q_59.2) (W_St G (sh a 21) v.2.1) (W_Pd G (sh a 41) q_75) (W_Or G (sh a 43) v.2.2.2.1) (W_Hi G (sh a 48) v.2.2.2.2) X).symm 3 0 rfl rfl rfl rfl rfl (Nat.le_of_ble_eq_true rfl) hl.1 d_Fd_carryOut_75 ⟨Nat.zero_le _, Nat.zero_le _⟩ (fun H locs hP hD hS => ?_)
          refine lv_aload_n hx hb d_Fd_carryOut_78 rfl (lv_at hl 0 rfl) ?_
          refine va_get (D := G.1) (ci := 8) (v := .ref (a 48)) (C := R_Fd) (T := T_Fd) (N := 6) hx hb hts in_Fd hown hK hP 0 rfl rfl 2 (by decide) (hts _ k_220) (fun _ h9 => h9) rfl d_Fd_carryOut_79 ?_
          refine lv_iload_n hx hb d_Fd_carryOut_82 rfl (lv_at hl 1 rfl) ?_
          obtain ⟨q_83, hc_83, hf⟩ := oc_e hf
          refine kcV (cc := c_Fd_carryOut) (own := "FloodDiary") (index := 55) (wc := W_Hi G (sh a 48) v.2.2.2.2) (wr := O_Fd G a h ++ (W_St G (sh a 1) q_59.2 ++ (W_St G (sh a 21) v.2.1 ++ (W_Pd G (sh a 41) q_75 ++ (W_Or G (sh a 43) v.2.2.2.1 ++ (X ++ (([] : va_W)))))))) (wc' := W_Hi G (sh a 48) q_83.2) (ws' := W_Fd G a h X (q_59.2, v.2.1, q_75, v.2.2.2.1, q_83.2)) hx hb hml hown hts hK hN hA hP hD hS (t_Hi_record l G (sh a 48) l1 v.2.2.2.2 q_83 hc_83) m_Hi_record k_298 ⟨Nat.le_of_ble_eq_true rfl, Nat.le_of_ble_eq_true rfl⟩ (pm_34 (O_Fd G a h) (W_St G (sh a 1) q_59.2) (W_St G (sh a 21) v.2.1) (W_Pd G (sh a 41) q_75) (W_Or G (sh a 43) v.2.2.2.1) (W_Hi G (sh a 48) v.2.2.2.2) X) (pm_34 (O_Fd G a h) (W_St G (sh a 1) q_59.2) (W_St G (sh a 21) v.2.1) (W_Pd G (sh a 41) q_75) (W_Or G (sh a 43) v.2.2.2.1) (W_Hi G (sh a 48) q_83.2) X).symm 1 0 rfl rfl rfl rfl rfl (Nat.le_of_ble_eq_true rfl) hl.1 d_Fd_carryOut_83 ⟨Nat.zero_le _, Nat.zero_le _⟩ (fun H locs hP hD hS => ?_)
          cases hf
          exact kI hx hb hr hlk hP hD hS d_Fd_carryOut_86
        · replace hf := ob_ef c_62 hf
          refine lv_iinc (v := (l1 + (1 : Int32))) (lv' := [(1, .int (l1 + (1 : Int32))), (0, .ref (a 0))]) hx hb d_Fd_carryOut_65 hl (k := 1) rfl rfl (by decide) rfl (fun ls hl => ?_)
          refine lv_goto (tgt := 39) hx hb d_Fd_carryOut_68 (by decide) ?_
          exact ih_39 (l1 + (1 : Int32)) (q_59.2, v.2.1, v.2.2.1, v.2.2.2.1, v.2.2.2.2) _ _ ls hP hD hS (lv_sub hl [1, 0] rfl) hf
  unfold f_Fd_carryOut at hf
  refine lv_aload_n hx hb d_Fd_carryOut_0 rfl (lv_at hl 0 rfl) ?_
  refine va_get (D := G.1) (ci := 8) (v := .ref (a 43)) (C := R_Fd) (T := T_Fd) (N := 6) hx hb hts in_Fd hown hK hP 0 rfl rfl 5 (by decide) (hts _ k_223) (fun _ h9 => h9) rfl d_Fd_carryOut_1 ?_
  refine lv_aload_n hx hb d_Fd_carryOut_4 rfl (lv_at hl 0 rfl) ?_
  refine va_get (D := G.1) (ci := 8) (v := .ref (a 41)) (C := R_Fd) (T := T_Fd) (N := 6) hx hb hts in_Fd hown hK hP 0 rfl rfl 4 (by decide) (hts _ k_222) (fun _ h9 => h9) rfl d_Fd_carryOut_5 ?_
  obtain ⟨q_8, hc_8, hf⟩ := oc_e hf
  refine kcVv (cc := c_Fd_carryOut) (own := "FloodDiary") (index := 158) (wc := W_Or G (sh a 43) v.2.2.2.1 ++ W_Pd G (sh a 41) v.2.2.1) (wr := O_Fd G a h ++ (W_St G (sh a 1) v.1 ++ (W_St G (sh a 21) v.2.1 ++ (W_Hi G (sh a 48) v.2.2.2.2 ++ (X ++ (([] : va_W))))))) (wc' := W_Or G (sh a 43) q_8 ++ W_Pd G (sh a 41) v.2.2.1) (ws' := W_Fd G a h X (v.1, v.2.1, v.2.2.1, q_8, v.2.2.2.2)) hx hb hml hown hts hK hN hA hP hD hS (t_Or_read l G (sh a 43) (sh a 41) v.2.2.2.1 v.2.2.1 q_8 hc_8) m_Or_read k_660 ⟨Nat.le_of_ble_eq_true rfl, Nat.le_of_ble_eq_true rfl⟩ (pm_39 (O_Fd G a h) (W_St G (sh a 1) v.1) (W_St G (sh a 21) v.2.1) (W_Pd G (sh a 41) v.2.2.1) (W_Or G (sh a 43) v.2.2.2.1) (W_Hi G (sh a 48) v.2.2.2.2) X) (pm_39 (O_Fd G a h) (W_St G (sh a 1) v.1) (W_St G (sh a 21) v.2.1) (W_Pd G (sh a 41) v.2.2.1) (W_Or G (sh a 43) q_8) (W_Hi G (sh a 48) v.2.2.2.2) X).symm 2 0 rfl rfl rfl rfl rfl (Nat.le_of_ble_eq_true rfl) hl.1 d_Fd_carryOut_8 ⟨Nat.zero_le _, Nat.zero_le _⟩ (fun H locs hP hD hS => ?_)
  refine lv_aload_n hx hb d_Fd_carryOut_11 rfl (lv_at hl 0 rfl) ?_
  refine va_get (D := G.1) (ci := 8) (v := .ref (a 43)) (C := R_Fd) (T := T_Fd) (N := 6) hx hb hts in_Fd hown hK hP 0 rfl rfl 5 (by decide) (hts _ k_223) (fun _ h9 => h9) rfl d_Fd_carryOut_12 ?_
  obtain ⟨q_15, hc_15, hf⟩ := oc_e hf
  refine kcV (cc := c_Fd_carryOut) (own := "FloodDiary") (index := 162) (wc := W_Or G (sh a 43) q_8) (wr := O_Fd G a h ++ (W_St G (sh a 1) v.1 ++ (W_St G (sh a 21) v.2.1 ++ (W_Pd G (sh a 41) v.2.2.1 ++ (W_Hi G (sh a 48) v.2.2.2.2 ++ (X ++ (([] : va_W)))))))) (wc' := W_Or G (sh a 43) q_8) (ws' := W_Fd G a h X (v.1, v.2.1, v.2.2.1, q_8, v.2.2.2.2)) hx hb hml hown hts hK hN hA hP hD hS (t_Or_firstFault l G (sh a 43) q_8 q_15 hc_15) m_Or_firstFault k_689 ⟨Nat.le_of_ble_eq_true rfl, Nat.le_of_ble_eq_true rfl⟩ (pm_40 (O_Fd G a h) (W_St G (sh a 1) v.1) (W_St G (sh a 21) v.2.1) (W_Pd G (sh a 41) v.2.2.1) (W_Or G (sh a 43) q_8) (W_Hi G (sh a 48) v.2.2.2.2) X) (pm_40 (O_Fd G a h) (W_St G (sh a 1) v.1) (W_St G (sh a 21) v.2.1) (W_Pd G (sh a 41) v.2.2.1) (W_Or G (sh a 43) q_8) (W_Hi G (sh a 48) v.2.2.2.2) X).symm 2 0 rfl rfl rfl rfl rfl (Nat.le_of_ble_eq_true rfl) hl.1 d_Fd_carryOut_15 ⟨Nat.zero_le _, Nat.zero_le _⟩ (fun H locs hP hD hS => ?_)
  refine lv_bipush (v := (-6 : Int32)) hx hb d_Fd_carryOut_18 (by decide) ?_
  refine lv_icmp_eq (tgt := 26) hx hb d_Fd_carryOut_20 (by decide) (fun c_20 => ?_) (fun c_20 => ?_)
  · replace hf := ob_et c_20 hf
    refine lv_aload_n hx hb d_Fd_carryOut_26 rfl (lv_at hl 0 rfl) ?_
    refine va_get (D := G.1) (ci := 8) (v := .ref (a 48)) (C := R_Fd) (T := T_Fd) (N := 6) hx hb hts in_Fd hown hK hP 0 rfl rfl 2 (by decide) (hts _ k_220) (fun _ h9 => h9) rfl d_Fd_carryOut_27 ?_
    refine lv_aload_n hx hb d_Fd_carryOut_30 rfl (lv_at hl 0 rfl) ?_
    refine va_get (D := G.1) (ci := 8) (v := .ref (a 1)) (C := R_Fd) (T := T_Fd) (N := 6) hx hb hts in_Fd hown hK hP 0 rfl rfl 0 (by decide) (hts _ k_218) (fun _ h9 => h9) rfl d_Fd_carryOut_31 ?_
    obtain ⟨q_34, hc_34, hf⟩ := oc_e hf
    refine kcVv (cc := c_Fd_carryOut) (own := "FloodDiary") (index := 47) (wc := W_Hi G (sh a 48) v.2.2.2.2 ++ W_St G (sh a 1) v.1) (wr := O_Fd G a h ++ (W_St G (sh a 21) v.2.1 ++ (W_Pd G (sh a 41) v.2.2.1 ++ (W_Or G (sh a 43) q_8 ++ (X ++ (([] : va_W))))))) (wc' := W_Hi G (sh a 48) q_34 ++ W_St G (sh a 1) v.1) (ws' := W_Fd G a h X (v.1, v.2.1, v.2.2.1, q_8, q_34)) hx hb hml hown hts hK hN hA hP hD hS (t_Hi_prepare l G (sh a 48) (sh a 1) v.2.2.2.2 v.1 q_34 hc_34) m_Hi_prepare k_241 ⟨Nat.le_of_ble_eq_true rfl, Nat.le_of_ble_eq_true rfl⟩ (pm_33 (O_Fd G a h) (W_St G (sh a 1) v.1) (W_St G (sh a 21) v.2.1) (W_Pd G (sh a 41) v.2.2.1) (W_Or G (sh a 43) q_8) (W_Hi G (sh a 48) v.2.2.2.2) X) (pm_33 (O_Fd G a h) (W_St G (sh a 1) v.1) (W_St G (sh a 21) v.2.1) (W_Pd G (sh a 41) v.2.2.1) (W_Or G (sh a 43) q_8) (W_Hi G (sh a 48) q_34) X).symm 1 0 rfl rfl rfl rfl rfl (Nat.le_of_ble_eq_true rfl) hl.1 d_Fd_carryOut_34 ⟨Nat.zero_le _, Nat.zero_le _⟩ (fun H locs hP hD hS => ?_)
    refine lv_iconst (v := (0 : Int32)) hx hb d_Fd_carryOut_37 (by decide) ?_
    refine lv_istore_n (lv' := [(1, .int (0 : Int32)), (0, .ref (a 0))]) hx hb d_Fd_carryOut_38 rfl hl (by decide) rfl (fun ls hl => ?_)
    exact J_39 FU (0 : Int32) (v.1, v.2.1, v.2.2.1, q_8, q_34) _ _ ls hP hD hS (lv_sub hl [1, 0] rfl) hf
  · replace hf := ob_ef c_20 hf
    refine lv_bipush (v := (-3 : Int32)) hx hb d_Fd_carryOut_23 (by decide) ?_
    cases hf
    exact kI hx hb hr hlk hP hD hS d_Fd_carryOut_25
set_option maxHeartbeats 4000000 in
set_option maxRecDepth 100000 in
theorem t_Fd_undo (l : Launch) (G : GG) (a : Nat → Nat) (h : Nat) (X : va_W) (v : V_Fd) (q : Int32 × V_Fd) (hf : f_Fd_undo v = some q) : MI l G y_Fd_undo c_Fd_undo 1 (some .int) (rmk 4 83) (W_Fd G a h X v) [.ref (a 0)] (W_Fd G a h X q.2) (q.1) := by
  refine ofI "FloodDiary" (by decide +kernel) rfl (Nat.le_of_ble_eq_true rfl) (fun p e s m args below meth c A ls hx hb hr hml hown hts hlk hK hN hA hP hD hS hl => ?_)
  have hl : lv_has ls 1 [(0, .ref (a 0))] := hl
  unfold f_Fd_undo at hf
  refine lv_aload_n hx hb d_Fd_undo_0 rfl (lv_at hl 0 rfl) ?_
  refine va_get (D := G.1) (ci := 8) (v := .ref (a 48)) (C := R_Fd) (T := T_Fd) (N := 6) hx hb hts in_Fd hown hK hP 0 rfl rfl 2 (by decide) (hts _ k_220) (fun _ h9 => h9) rfl d_Fd_undo_1 ?_
  obtain ⟨q_4, hc_4, hf⟩ := oc_e hf
  refine kcV (cc := c_Fd_undo) (own := "FloodDiary") (index := 107) (wc := W_Hi G (sh a 48) v.2.2.2.2) (wr := O_Fd G a h ++ (W_St G (sh a 1) v.1 ++ (W_St G (sh a 21) v.2.1 ++ (W_Pd G (sh a 41) v.2.2.1 ++ (W_Or G (sh a 43) v.2.2.2.1 ++ (X ++ (([] : va_W)))))))) (wc' := W_Hi G (sh a 48) v.2.2.2.2) (ws' := W_Fd G a h X v) hx hb hml hown hts hK hN hA hP hD hS (t_Hi_length l G (sh a 48) v.2.2.2.2 q_4 hc_4) m_Hi_length k_573 ⟨Nat.le_of_ble_eq_true rfl, Nat.le_of_ble_eq_true rfl⟩ (pm_34 (O_Fd G a h) (W_St G (sh a 1) v.1) (W_St G (sh a 21) v.2.1) (W_Pd G (sh a 41) v.2.2.1) (W_Or G (sh a 43) v.2.2.2.1) (W_Hi G (sh a 48) v.2.2.2.2) X) (pm_34 (O_Fd G a h) (W_St G (sh a 1) v.1) (W_St G (sh a 21) v.2.1) (W_Pd G (sh a 41) v.2.2.1) (W_Or G (sh a 43) v.2.2.2.1) (W_Hi G (sh a 48) v.2.2.2.2) X).symm 1 0 rfl rfl rfl rfl rfl (Nat.le_of_ble_eq_true rfl) hl.1 d_Fd_undo_4 ⟨Nat.zero_le _, Nat.zero_le _⟩ (fun H locs hP hD hS => ?_)
  refine lv_if_ne (tgt := 13) hx hb d_Fd_undo_7 (by decide) (fun c_7 => ?_) (fun c_7 => ?_)
  · replace hf := ob_ef c_7 hf
    refine lv_aload_n hx hb d_Fd_undo_13 rfl (lv_at hl 0 rfl) ?_
    refine va_get (D := G.1) (ci := 8) (v := .ref (a 48)) (C := R_Fd) (T := T_Fd) (N := 6) hx hb hts in_Fd hown hK hP 0 rfl rfl 2 (by decide) (hts _ k_220) (fun _ h9 => h9) rfl d_Fd_undo_14 ?_
    refine lv_aload_n hx hb d_Fd_undo_17 rfl (lv_at hl 0 rfl) ?_
    refine va_get (D := G.1) (ci := 8) (v := .ref (a 1)) (C := R_Fd) (T := T_Fd) (N := 6) hx hb hts in_Fd hown hK hP 0 rfl rfl 0 (by decide) (hts _ k_218) (fun _ h9 => h9) rfl d_Fd_undo_18 ?_
    obtain ⟨q_21, hc_21, hf⟩ := oc_e hf
    refine kcVv (cc := c_Fd_undo) (own := "FloodDiary") (index := 170) (wc := W_Hi G (sh a 48) v.2.2.2.2 ++ W_St G (sh a 1) v.1) (wr := O_Fd G a h ++ (W_St G (sh a 21) v.2.1 ++ (W_Pd G (sh a 41) v.2.2.1 ++ (W_Or G (sh a 43) v.2.2.2.1 ++ (X ++ (([] : va_W))))))) (wc' := W_Hi G (sh a 48) q_21.1 ++ W_St G (sh a 1) q_21.2) (ws' := W_Fd G a h X (q_21.2, v.2.1, v.2.2.1, v.2.2.2.1, q_21.1)) hx hb hml hown hts hK hN hA hP hD hS (t_Hi_takeBack l G (sh a 48) (sh a 1) v.2.2.2.2 v.1 q_21 hc_21) m_Hi_takeBack k_717 ⟨Nat.le_of_ble_eq_true rfl, Nat.le_of_ble_eq_true rfl⟩ (pm_33 (O_Fd G a h) (W_St G (sh a 1) v.1) (W_St G (sh a 21) v.2.1) (W_Pd G (sh a 41) v.2.2.1) (W_Or G (sh a 43) v.2.2.2.1) (W_Hi G (sh a 48) v.2.2.2.2) X) (pm_33 (O_Fd G a h) (W_St G (sh a 1) q_21.2) (W_St G (sh a 21) v.2.1) (W_Pd G (sh a 41) v.2.2.1) (W_Or G (sh a 43) v.2.2.2.1) (W_Hi G (sh a 48) q_21.1) X).symm 1 0 rfl rfl rfl rfl rfl (Nat.le_of_ble_eq_true rfl) hl.1 d_Fd_undo_21 ⟨Nat.zero_le _, Nat.zero_le _⟩ (fun H locs hP hD hS => ?_)
    refine lv_aload_n hx hb d_Fd_undo_24 rfl (lv_at hl 0 rfl) ?_
    refine va_get (D := G.1) (ci := 8) (v := .ref (a 48)) (C := R_Fd) (T := T_Fd) (N := 6) hx hb hts in_Fd hown hK hP 0 rfl rfl 2 (by decide) (hts _ k_220) (fun _ h9 => h9) rfl d_Fd_undo_25 ?_
    obtain ⟨q_28, hc_28, hf⟩ := oc_e hf
    refine kcV (cc := c_Fd_undo) (own := "FloodDiary") (index := 107) (wc := W_Hi G (sh a 48) q_21.1) (wr := O_Fd G a h ++ (W_St G (sh a 1) q_21.2 ++ (W_St G (sh a 21) v.2.1 ++ (W_Pd G (sh a 41) v.2.2.1 ++ (W_Or G (sh a 43) v.2.2.2.1 ++ (X ++ (([] : va_W)))))))) (wc' := W_Hi G (sh a 48) q_21.1) (ws' := W_Fd G a h X (q_21.2, v.2.1, v.2.2.1, v.2.2.2.1, q_21.1)) hx hb hml hown hts hK hN hA hP hD hS (t_Hi_length l G (sh a 48) q_21.1 q_28 hc_28) m_Hi_length k_573 ⟨Nat.le_of_ble_eq_true rfl, Nat.le_of_ble_eq_true rfl⟩ (pm_34 (O_Fd G a h) (W_St G (sh a 1) q_21.2) (W_St G (sh a 21) v.2.1) (W_Pd G (sh a 41) v.2.2.1) (W_Or G (sh a 43) v.2.2.2.1) (W_Hi G (sh a 48) q_21.1) X) (pm_34 (O_Fd G a h) (W_St G (sh a 1) q_21.2) (W_St G (sh a 21) v.2.1) (W_Pd G (sh a 41) v.2.2.1) (W_Or G (sh a 43) v.2.2.2.1) (W_Hi G (sh a 48) q_21.1) X).symm 1 0 rfl rfl rfl rfl rfl (Nat.le_of_ble_eq_true rfl) hl.1 d_Fd_undo_28 ⟨Nat.zero_le _, Nat.zero_le _⟩ (fun H locs hP hD hS => ?_)
    cases hf
    exact kI hx hb hr hlk hP hD hS d_Fd_undo_31
  · replace hf := ob_et c_7 hf
    refine lv_bipush (v := (-5 : Int32)) hx hb d_Fd_undo_10 (by decide) ?_
    cases hf
    exact kI hx hb hr hlk hP hD hS d_Fd_undo_12
