theorem pm_46 (x0 x1 x2 : va_W) : List.Perm ((x0 ++ (x1 ++ (([] : va_W)))) ++ (x2)) ((x1 ++ x2) ++ (x0 ++ (([] : va_W)))) := prm (fun d z => by first | (simp only [List.count_append, List.count_nil]; omega) | simp only [List.count_append, List.count_nil])
set_option maxHeartbeats 4000000 in
set_option maxRecDepth 100000 in
theorem t_S1_store_0 (l : Launch) (G : GG) (a : Nat → Nat) (b : Nat → Nat) (v : V_S1) (u : V_St) (q : V_S1) (hf : f_S1_store_0 v u = some q) : MV l G y_Sl_store c_Sl_store 4 (rmk 3 61) (W_S1 G a v ++ W_St G b u) [.ref (a 0), .int (0 : Int32), .ref (b 0)] (W_S1 G a q ++ W_St G b u) := by
  refine ofV "FloodDiary$Slots" (by decide +kernel) rfl (Nat.le_of_ble_eq_true rfl) (fun p e s m args below meth c A ls hx hb hr hml hown hts hlk hK hN hA hP hD hS hl => ?_)
  have hl : lv_has ls 4 [(0, .ref (a 0)), (1, .int (0 : Int32)), (2, .ref (b 0))] := hl
  unfold f_S1_store_0 at hf
  refine lv_iload_n hx hb d_Sl_store_0 rfl (lv_at hl 1 rfl) ?_
  obtain ⟨q_1, hc_1, hf⟩ := oc_e hf
  refine kcSN (cc := c_Sl_store) (own := "FloodDiary$Slots") (index := 17) (wc := ([] : va_W)) (wr := W_S1 G a v ++ W_St G b u) (wc' := ([] : va_W)) (ws' := W_S1 G a v ++ W_St G b u) hx hb hml hown hts hK hN hA hP hD hS (t_Fd_isSlot l G (0 : Int32) q_1 hc_1) m_Fd_isSlot nsM_15 ⟨Nat.le_of_ble_eq_true rfl, Nat.le_of_ble_eq_true rfl⟩ (List.Perm.refl _) (List.Perm.refl _) rfl rfl (Nat.le_of_ble_eq_true rfl) hl.1 d_Sl_store_1 ⟨Nat.zero_le _, Nat.zero_le _⟩ (fun H locs hP hD hS => ?_)
  refine lv_if_eq (tgt := 38) hx hb d_Sl_store_4 (by decide) (fun c_4 => ?_) (fun c_4 => ?_)
  · replace hf := ob_et c_4 hf
    cases hf
    exact kV hx hb hr hlk hP hD hS d_Sl_store_38
  · replace hf := ob_ef c_4 hf
    refine lv_aload_n hx hb d_Sl_store_7 rfl (lv_at hl 0 rfl) ?_
    refine va_get (D := G.1) (ci := 5) (v := .ref (a 1)) (C := R_Sl) (T := T_Sl) (N := 1) hx hb hts in_Sl hown hK hP 0 rfl rfl 0 (by decide) (hts _ k_172) (fun _ h9 => h9) rfl d_Sl_store_8 ?_
    refine lv_iload_n hx hb d_Sl_store_11 rfl (lv_at hl 1 rfl) ?_
    obtain ⟨g_12, hf⟩ := og_e hf
    by_cases e_12_0 : (0 : Int32).toNatClampNeg = 0
    · replace hf := ob_et e_12_0 hf
      refine va_aldq (C := "FloodDiary$State") hx hb hK hP 1 3 rfl rfl g_12 d_Sl_store_12 ?_
      refine W.eq (g2 := F0 m 13 ls [.ref (a 2)]) (by first | (rw [e_12_0]; rfl) | rfl) ?_
      refine lv_astore_n (lv' := [(3, .ref (a 2)), (0, .ref (a 0)), (1, .int (0 : Int32)), (2, .ref (b 0))]) hx hb d_Sl_store_13 rfl hl (by decide) rfl (fun ls hl => ?_)
      refine lv_aload_n hx hb d_Sl_store_14 rfl (lv_at hl 0 rfl) ?_
      refine lv_ifnonnull (tgt := 33) hx hb d_Sl_store_15 (by decide) ?_
      refine lv_aload_n hx hb d_Sl_store_33 rfl (lv_at hl 0 rfl) ?_
      refine lv_aload_n hx hb d_Sl_store_34 rfl (lv_at hl 3 rfl) ?_
      obtain ⟨q_35, hc_35, hf⟩ := oc_e hf
      refine kcVv (cc := c_Sl_store) (own := "FloodDiary$Slots") (index := 22) (wc := W_St G (sh a 2) v ++ W_St G b u) (wr := O_S1 G a v ++ (([] : va_W))) (wc' := W_St G (sh a 2) q_35 ++ W_St G b u) (ws' := W_S1 G a q_35 ++ W_St G b u) hx hb hml hown hts hK hN hA hP hD hS (t_St_become l G (sh a 2) b v u q_35 hc_35) m_St_become k_734 ⟨Nat.le_of_ble_eq_true rfl, Nat.le_of_ble_eq_true rfl⟩ (pm_46 (O_S1 G a v) (W_St G (sh a 2) v) (W_St G b u)) (pm_46 (O_S1 G a q_35) (W_St G (sh a 2) q_35) (W_St G b u)).symm 6 0 rfl rfl rfl rfl rfl (Nat.le_of_ble_eq_true rfl) hl.1 d_Sl_store_35 ⟨Nat.zero_le _, Nat.zero_le _⟩ (fun H locs hP hD hS => ?_)
      cases hf
      exact kV hx hb hr hlk hP hD hS d_Sl_store_38
    · replace hf := ob_ef e_12_0 hf
      by_cases e_12_1 : (0 : Int32).toNatClampNeg = 1
      · exact absurd e_12_1 (by decide)
      · replace hf := ob_ef e_12_1 hf
        cases hf
set_option maxHeartbeats 4000000 in
set_option maxRecDepth 100000 in
theorem t_S2_store_1 (l : Launch) (G : GG) (a : Nat → Nat) (b : Nat → Nat) (v : V_S2) (u : V_St) (q : V_S2) (hf : f_S2_store_1 v u = some q) : MV l G y_Sl_store c_Sl_store 4 (rmk 3 61) (W_S2 G a v ++ W_St G b u) [.ref (a 0), .int (1 : Int32), .ref (b 0)] (W_S2 G a q ++ W_St G b u) := by
  refine ofV "FloodDiary$Slots" (by decide +kernel) rfl (Nat.le_of_ble_eq_true rfl) (fun p e s m args below meth c A ls hx hb hr hml hown hts hlk hK hN hA hP hD hS hl => ?_)
  have hl : lv_has ls 4 [(0, .ref (a 0)), (1, .int (1 : Int32)), (2, .ref (b 0))] := hl
  unfold f_S2_store_1 at hf
  refine lv_iload_n hx hb d_Sl_store_0 rfl (lv_at hl 1 rfl) ?_
  obtain ⟨q_1, hc_1, hf⟩ := oc_e hf
  refine kcSN (cc := c_Sl_store) (own := "FloodDiary$Slots") (index := 17) (wc := ([] : va_W)) (wr := W_S2 G a v ++ W_St G b u) (wc' := ([] : va_W)) (ws' := W_S2 G a v ++ W_St G b u) hx hb hml hown hts hK hN hA hP hD hS (t_Fd_isSlot l G (1 : Int32) q_1 hc_1) m_Fd_isSlot nsM_15 ⟨Nat.le_of_ble_eq_true rfl, Nat.le_of_ble_eq_true rfl⟩ (List.Perm.refl _) (List.Perm.refl _) rfl rfl (Nat.le_of_ble_eq_true rfl) hl.1 d_Sl_store_1 ⟨Nat.zero_le _, Nat.zero_le _⟩ (fun H locs hP hD hS => ?_)
  refine lv_if_eq (tgt := 38) hx hb d_Sl_store_4 (by decide) (fun c_4 => ?_) (fun c_4 => ?_)
  · replace hf := ob_et c_4 hf
    cases hf
    exact kV hx hb hr hlk hP hD hS d_Sl_store_38
  · replace hf := ob_ef c_4 hf
    refine lv_aload_n hx hb d_Sl_store_7 rfl (lv_at hl 0 rfl) ?_
    refine va_get (D := G.1) (ci := 5) (v := .ref (a 1)) (C := R_Sl) (T := T_Sl) (N := 1) hx hb hts in_Sl hown hK hP 0 rfl rfl 0 (by decide) (hts _ k_172) (fun _ h9 => h9) rfl d_Sl_store_8 ?_
    refine lv_iload_n hx hb d_Sl_store_11 rfl (lv_at hl 1 rfl) ?_
    obtain ⟨g_12, hf⟩ := og_e hf
    by_cases e_12_0 : (1 : Int32).toNatClampNeg = 0
    · exact absurd e_12_0 (by decide)
    · replace hf := ob_ef e_12_0 hf
      by_cases e_12_1 : (1 : Int32).toNatClampNeg = 1
      · replace hf := ob_et e_12_1 hf
        refine va_aldq (C := "FloodDiary$State") hx hb hK hP 1 3 rfl rfl g_12 d_Sl_store_12 ?_
        refine W.eq (g2 := F0 m 13 ls [.ref (a 2)]) (by first | (rw [e_12_1]; rfl) | rfl) ?_
        refine lv_astore_n (lv' := [(3, .ref (a 2)), (0, .ref (a 0)), (1, .int (1 : Int32)), (2, .ref (b 0))]) hx hb d_Sl_store_13 rfl hl (by decide) rfl (fun ls hl => ?_)
        refine lv_aload_n hx hb d_Sl_store_14 rfl (lv_at hl 0 rfl) ?_
        refine lv_ifnonnull (tgt := 33) hx hb d_Sl_store_15 (by decide) ?_
        refine lv_aload_n hx hb d_Sl_store_33 rfl (lv_at hl 0 rfl) ?_
        refine lv_aload_n hx hb d_Sl_store_34 rfl (lv_at hl 3 rfl) ?_
        obtain ⟨q_35, hc_35, hf⟩ := oc_e hf
        refine kcVv (cc := c_Sl_store) (own := "FloodDiary$Slots") (index := 22) (wc := W_St G (sh a 2) v ++ W_St G b u) (wr := O_S2 G a v ++ (([] : va_W))) (wc' := W_St G (sh a 2) q_35 ++ W_St G b u) (ws' := W_S2 G a q_35 ++ W_St G b u) hx hb hml hown hts hK hN hA hP hD hS (t_St_become l G (sh a 2) b v u q_35 hc_35) m_St_become k_734 ⟨Nat.le_of_ble_eq_true rfl, Nat.le_of_ble_eq_true rfl⟩ (pm_46 (O_S2 G a v) (W_St G (sh a 2) v) (W_St G b u)) (pm_46 (O_S2 G a q_35) (W_St G (sh a 2) q_35) (W_St G b u)).symm 6 0 rfl rfl rfl rfl rfl (Nat.le_of_ble_eq_true rfl) hl.1 d_Sl_store_35 ⟨Nat.zero_le _, Nat.zero_le _⟩ (fun H locs hP hD hS => ?_)
        cases hf
        exact kV hx hb hr hlk hP hD hS d_Sl_store_38
      · replace hf := ob_ef e_12_1 hf
        cases hf
theorem pm_47 (x0 x1 x2 x3 : va_W) : List.Perm ((x0 ++ (x1 ++ (x2 ++ (([] : va_W))))) ++ (x3)) ((x1 ++ x3) ++ (x0 ++ (x2 ++ (([] : va_W))))) := prm (fun d z => by first | (simp only [List.count_append, List.count_nil]; omega) | simp only [List.count_append, List.count_nil])
set_option maxHeartbeats 4000000 in
set_option maxRecDepth 100000 in
theorem t_S3_store_0 (l : Launch) (G : GG) (a : Nat → Nat) (b : Nat → Nat) (v : V_S3) (u : V_St) (q : V_S3) (hf : f_S3_store_0 v u = some q) : MV l G y_Sl_store c_Sl_store 4 (rmk 3 61) (W_S3 G a v ++ W_St G b u) [.ref (a 0), .int (0 : Int32), .ref (b 0)] (W_S3 G a q ++ W_St G b u) := by
  refine ofV "FloodDiary$Slots" (by decide +kernel) rfl (Nat.le_of_ble_eq_true rfl) (fun p e s m args below meth c A ls hx hb hr hml hown hts hlk hK hN hA hP hD hS hl => ?_)
  have hl : lv_has ls 4 [(0, .ref (a 0)), (1, .int (0 : Int32)), (2, .ref (b 0))] := hl
  unfold f_S3_store_0 at hf
  refine lv_iload_n hx hb d_Sl_store_0 rfl (lv_at hl 1 rfl) ?_
  obtain ⟨q_1, hc_1, hf⟩ := oc_e hf
  refine kcSN (cc := c_Sl_store) (own := "FloodDiary$Slots") (index := 17) (wc := ([] : va_W)) (wr := W_S3 G a v ++ W_St G b u) (wc' := ([] : va_W)) (ws' := W_S3 G a v ++ W_St G b u) hx hb hml hown hts hK hN hA hP hD hS (t_Fd_isSlot l G (0 : Int32) q_1 hc_1) m_Fd_isSlot nsM_15 ⟨Nat.le_of_ble_eq_true rfl, Nat.le_of_ble_eq_true rfl⟩ (List.Perm.refl _) (List.Perm.refl _) rfl rfl (Nat.le_of_ble_eq_true rfl) hl.1 d_Sl_store_1 ⟨Nat.zero_le _, Nat.zero_le _⟩ (fun H locs hP hD hS => ?_)
  refine lv_if_eq (tgt := 38) hx hb d_Sl_store_4 (by decide) (fun c_4 => ?_) (fun c_4 => ?_)
  · replace hf := ob_et c_4 hf
    cases hf
    exact kV hx hb hr hlk hP hD hS d_Sl_store_38
  · replace hf := ob_ef c_4 hf
    refine lv_aload_n hx hb d_Sl_store_7 rfl (lv_at hl 0 rfl) ?_
    refine va_get (D := G.1) (ci := 5) (v := .ref (a 1)) (C := R_Sl) (T := T_Sl) (N := 1) hx hb hts in_Sl hown hK hP 0 rfl rfl 0 (by decide) (hts _ k_172) (fun _ h9 => h9) rfl d_Sl_store_8 ?_
    refine lv_iload_n hx hb d_Sl_store_11 rfl (lv_at hl 1 rfl) ?_
    obtain ⟨g_12, hf⟩ := og_e hf
    by_cases e_12_0 : (0 : Int32).toNatClampNeg = 0
    · replace hf := ob_et e_12_0 hf
      refine va_aldq (C := "FloodDiary$State") hx hb hK hP 1 3 rfl rfl g_12 d_Sl_store_12 ?_
      refine W.eq (g2 := F0 m 13 ls [.ref (a 2)]) (by first | (rw [e_12_0]; rfl) | rfl) ?_
      refine lv_astore_n (lv' := [(3, .ref (a 2)), (0, .ref (a 0)), (1, .int (0 : Int32)), (2, .ref (b 0))]) hx hb d_Sl_store_13 rfl hl (by decide) rfl (fun ls hl => ?_)
      refine lv_aload_n hx hb d_Sl_store_14 rfl (lv_at hl 0 rfl) ?_
      refine lv_ifnonnull (tgt := 33) hx hb d_Sl_store_15 (by decide) ?_
      refine lv_aload_n hx hb d_Sl_store_33 rfl (lv_at hl 0 rfl) ?_
      refine lv_aload_n hx hb d_Sl_store_34 rfl (lv_at hl 3 rfl) ?_
      obtain ⟨q_35, hc_35, hf⟩ := oc_e hf
      refine kcVv (cc := c_Sl_store) (own := "FloodDiary$Slots") (index := 22) (wc := W_St G (sh a 2) v.1 ++ W_St G b u) (wr := O_S3 G a v ++ (W_St G (sh a 22) v.2 ++ (([] : va_W)))) (wc' := W_St G (sh a 2) q_35 ++ W_St G b u) (ws' := W_S3 G a (q_35, v.2) ++ W_St G b u) hx hb hml hown hts hK hN hA hP hD hS (t_St_become l G (sh a 2) b v.1 u q_35 hc_35) m_St_become k_734 ⟨Nat.le_of_ble_eq_true rfl, Nat.le_of_ble_eq_true rfl⟩ (pm_47 (O_S3 G a v) (W_St G (sh a 2) v.1) (W_St G (sh a 22) v.2) (W_St G b u)) (pm_47 (O_S3 G a (q_35, v.2)) (W_St G (sh a 2) q_35) (W_St G (sh a 22) v.2) (W_St G b u)).symm 6 0 rfl rfl rfl rfl rfl (Nat.le_of_ble_eq_true rfl) hl.1 d_Sl_store_35 ⟨Nat.zero_le _, Nat.zero_le _⟩ (fun H locs hP hD hS => ?_)
      cases hf
      exact kV hx hb hr hlk hP hD hS d_Sl_store_38
    · replace hf := ob_ef e_12_0 hf
      by_cases e_12_1 : (0 : Int32).toNatClampNeg = 1
      · exact absurd e_12_1 (by decide)
      · replace hf := ob_ef e_12_1 hf
        cases hf
theorem pm_48 (x0 x1 x2 x3 : va_W) : List.Perm ((x0 ++ (x1 ++ (x2 ++ (([] : va_W))))) ++ (x3)) ((x2 ++ x3) ++ (x0 ++ (x1 ++ (([] : va_W))))) := prm (fun d z => by first | (simp only [List.count_append, List.count_nil]; omega) | simp only [List.count_append, List.count_nil])
set_option maxHeartbeats 4000000 in
set_option maxRecDepth 100000 in
theorem t_S3_store_1 (l : Launch) (G : GG) (a : Nat → Nat) (b : Nat → Nat) (v : V_S3) (u : V_St) (q : V_S3) (hf : f_S3_store_1 v u = some q) : MV l G y_Sl_store c_Sl_store 4 (rmk 3 61) (W_S3 G a v ++ W_St G b u) [.ref (a 0), .int (1 : Int32), .ref (b 0)] (W_S3 G a q ++ W_St G b u) := by
  refine ofV "FloodDiary$Slots" (by decide +kernel) rfl (Nat.le_of_ble_eq_true rfl) (fun p e s m args below meth c A ls hx hb hr hml hown hts hlk hK hN hA hP hD hS hl => ?_)
  have hl : lv_has ls 4 [(0, .ref (a 0)), (1, .int (1 : Int32)), (2, .ref (b 0))] := hl
  unfold f_S3_store_1 at hf
  refine lv_iload_n hx hb d_Sl_store_0 rfl (lv_at hl 1 rfl) ?_
  obtain ⟨q_1, hc_1, hf⟩ := oc_e hf
  refine kcSN (cc := c_Sl_store) (own := "FloodDiary$Slots") (index := 17) (wc := ([] : va_W)) (wr := W_S3 G a v ++ W_St G b u) (wc' := ([] : va_W)) (ws' := W_S3 G a v ++ W_St G b u) hx hb hml hown hts hK hN hA hP hD hS (t_Fd_isSlot l G (1 : Int32) q_1 hc_1) m_Fd_isSlot nsM_15 ⟨Nat.le_of_ble_eq_true rfl, Nat.le_of_ble_eq_true rfl⟩ (List.Perm.refl _) (List.Perm.refl _) rfl rfl (Nat.le_of_ble_eq_true rfl) hl.1 d_Sl_store_1 ⟨Nat.zero_le _, Nat.zero_le _⟩ (fun H locs hP hD hS => ?_)
  refine lv_if_eq (tgt := 38) hx hb d_Sl_store_4 (by decide) (fun c_4 => ?_) (fun c_4 => ?_)
  · replace hf := ob_et c_4 hf
    cases hf
    exact kV hx hb hr hlk hP hD hS d_Sl_store_38
  · replace hf := ob_ef c_4 hf
    refine lv_aload_n hx hb d_Sl_store_7 rfl (lv_at hl 0 rfl) ?_
    refine va_get (D := G.1) (ci := 5) (v := .ref (a 1)) (C := R_Sl) (T := T_Sl) (N := 1) hx hb hts in_Sl hown hK hP 0 rfl rfl 0 (by decide) (hts _ k_172) (fun _ h9 => h9) rfl d_Sl_store_8 ?_
    refine lv_iload_n hx hb d_Sl_store_11 rfl (lv_at hl 1 rfl) ?_
    obtain ⟨g_12, hf⟩ := og_e hf
    by_cases e_12_0 : (1 : Int32).toNatClampNeg = 0
    · exact absurd e_12_0 (by decide)
    · replace hf := ob_ef e_12_0 hf
      by_cases e_12_1 : (1 : Int32).toNatClampNeg = 1
      · replace hf := ob_et e_12_1 hf
        refine va_aldq (C := "FloodDiary$State") hx hb hK hP 1 3 rfl rfl g_12 d_Sl_store_12 ?_
        refine W.eq (g2 := F0 m 13 ls [.ref (a 22)]) (by first | (rw [e_12_1]; rfl) | rfl) ?_
        refine lv_astore_n (lv' := [(3, .ref (a 22)), (0, .ref (a 0)), (1, .int (1 : Int32)), (2, .ref (b 0))]) hx hb d_Sl_store_13 rfl hl (by decide) rfl (fun ls hl => ?_)
        refine lv_aload_n hx hb d_Sl_store_14 rfl (lv_at hl 0 rfl) ?_
        refine lv_ifnonnull (tgt := 33) hx hb d_Sl_store_15 (by decide) ?_
        refine lv_aload_n hx hb d_Sl_store_33 rfl (lv_at hl 0 rfl) ?_
        refine lv_aload_n hx hb d_Sl_store_34 rfl (lv_at hl 3 rfl) ?_
        obtain ⟨q_35, hc_35, hf⟩ := oc_e hf
        refine kcVv (cc := c_Sl_store) (own := "FloodDiary$Slots") (index := 22) (wc := W_St G (sh a 22) v.2 ++ W_St G b u) (wr := O_S3 G a v ++ (W_St G (sh a 2) v.1 ++ (([] : va_W)))) (wc' := W_St G (sh a 22) q_35 ++ W_St G b u) (ws' := W_S3 G a (v.1, q_35) ++ W_St G b u) hx hb hml hown hts hK hN hA hP hD hS (t_St_become l G (sh a 22) b v.2 u q_35 hc_35) m_St_become k_734 ⟨Nat.le_of_ble_eq_true rfl, Nat.le_of_ble_eq_true rfl⟩ (pm_48 (O_S3 G a v) (W_St G (sh a 2) v.1) (W_St G (sh a 22) v.2) (W_St G b u)) (pm_48 (O_S3 G a (v.1, q_35)) (W_St G (sh a 2) v.1) (W_St G (sh a 22) q_35) (W_St G b u)).symm 6 0 rfl rfl rfl rfl rfl (Nat.le_of_ble_eq_true rfl) hl.1 d_Sl_store_35 ⟨Nat.zero_le _, Nat.zero_le _⟩ (fun H locs hP hD hS => ?_)
        cases hf
        exact kV hx hb hr hlk hP hD hS d_Sl_store_38
      · replace hf := ob_ef e_12_1 hf
        cases hf
set_option maxHeartbeats 4000000 in
set_option maxRecDepth 100000 in
theorem t_Fd_keepN (l : Launch) (G : GG) (a : Nat → Nat) (h : Nat) (X : va_W) (l1 : Int32) (v : V_Fd) (q : Int32 × V_Fd) (hf : f_Fd_keepN l1 v = some q) : MI l G y_Fd_keep c_Fd_keep 2 (some .int) (rmk 1 20) (W_Fd G a h X v) [.ref (a 0), .int l1] (W_Fd G a h X q.2) (q.1) := by
  refine ofI "FloodDiary" (by decide +kernel) rfl (Nat.le_of_ble_eq_true rfl) (fun p e s m args below meth c A ls hx hb hr hml hown hts hlk hK hN hA hP hD hS hl => ?_)
  have hl : lv_has ls 2 [(0, .ref (a 0)), (1, .int l1)] := hl
  unfold f_Fd_keepN at hf
  refine lv_iload_n hx hb d_Fd_keep_0 rfl (lv_at hl 1 rfl) ?_
  obtain ⟨q_1, hc_1, hf⟩ := oc_e hf
  refine kcS (cc := c_Fd_keep) (own := "FloodDiary") (index := 173) (wc := ([] : va_W)) (wr := W_Fd G a h X v) (wc' := ([] : va_W)) (ws' := W_Fd G a h X v) hx hb hml hown hts hK hN hA hP hD hS (t_Fd_isSlot l G l1 q_1 hc_1) m_Fd_isSlot k_725 ⟨Nat.le_of_ble_eq_true rfl, Nat.le_of_ble_eq_true rfl⟩ (List.Perm.refl _) (List.Perm.refl _) rfl rfl (Nat.le_of_ble_eq_true rfl) hl.1 d_Fd_keep_1 ⟨Nat.zero_le _, Nat.zero_le _⟩ (fun H locs hP hD hS => ?_)
  refine lv_if_ne (tgt := 10) hx hb d_Fd_keep_4 (by decide) (fun c_4 => ?_) (fun c_4 => ?_)
  · replace hf := ob_ef c_4 hf
    refine lv_aload_n hx hb d_Fd_keep_10 rfl (lv_at hl 0 rfl) ?_
    refine va_get (D := G.1) (ci := 8) (v := .ref h) (C := R_Fd) (T := T_Fd) (N := 6) hx hb hts in_Fd hown hK hP 0 rfl rfl 3 (by decide) (hts _ k_221) (fun _ h9 => h9) rfl d_Fd_keep_11 ?_
    refine lv_iload_n hx hb d_Fd_keep_14 rfl (lv_at hl 1 rfl) ?_
    refine lv_aload_n hx hb d_Fd_keep_15 rfl (lv_at hl 0 rfl) ?_
    refine va_get (D := G.1) (ci := 8) (v := .ref (a 1)) (C := R_Fd) (T := T_Fd) (N := 6) hx hb hts in_Fd hown hK hP 0 rfl rfl 0 (by decide) (hts _ k_218) (fun _ h9 => h9) rfl d_Fd_keep_16 ?_
    cases hf
  · replace hf := ob_et c_4 hf
    refine lv_bipush (v := (-2 : Int32)) hx hb d_Fd_keep_7 (by decide) ?_
    cases hf
    exact kI hx hb hr hlk hP hD hS d_Fd_keep_9
