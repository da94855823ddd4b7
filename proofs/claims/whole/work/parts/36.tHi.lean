set_option maxHeartbeats 4000000 in
set_option maxRecDepth 100000 in
theorem t_Hi_length (l : Launch) (G : GG) (a : Nat → Nat) (v : V_Hi) (q : Int32) (hf : f_Hi_length v = some q) : MI l G y_Hi_length c_Hi_length 1 (some .int) (rmk 0 0) (W_Hi G a v) [.ref (a 0)] (W_Hi G a v) (q) := by
  refine ofI "FloodDiary$History" (by decide +kernel) rfl (Nat.le_of_ble_eq_true rfl) (fun p e s m args below meth c A ls hx hb hr hml hown hts hlk hK hN hA hP hD hS hl => ?_)
  have hl : lv_has ls 1 [(0, .ref (a 0))] := hl
  unfold f_Hi_length at hf
  refine lv_aload_n hx hb d_Hi_length_0 rfl (lv_at hl 0 rfl) ?_
  refine va_get (D := G.1) (ci := 1) (v := .int v.2.2.2.2.2.2.2.2) (C := R_Hi) (T := T_Hi) (N := 3) hx hb hts in_Hi hown hK hP 0 rfl rfl 2 (by decide) (hts _ k_157) (fun _ h9 => h9) rfl d_Hi_length_1 ?_
  cases hf
  exact kI hx hb hr hlk hP hD hS d_Hi_length_4
set_option maxHeartbeats 4000000 in
set_option maxRecDepth 100000 in
theorem t_Hi_record (l : Launch) (G : GG) (a : Nat → Nat) (l1 : Int32) (v : V_Hi) (q : Int32 × V_Hi) (hf : f_Hi_record l1 v = some q) : MI l G y_Hi_record c_Hi_record 2 (some .int) (rmk 0 0) (W_Hi G a v) [.ref (a 0), .int l1] (W_Hi G a q.2) (q.1) := by
  refine ofI "FloodDiary$History" (by decide +kernel) rfl (Nat.le_of_ble_eq_true rfl) (fun p e s m args below meth c A ls hx hb hr hml hown hts hlk hK hN hA hP hD hS hl => ?_)
  have hl : lv_has ls 2 [(0, .ref (a 0)), (1, .int l1)] := hl
  unfold f_Hi_record at hf
  refine lv_iload_n hx hb d_Hi_record_0 rfl (lv_at hl 1 rfl) ?_
  refine lv_if_lt (tgt := 26) hx hb d_Hi_record_1 (by decide) (fun c_1 => ?_) (fun c_1 => ?_)
  · replace hf := ob_et c_1 hf
    refine lv_iload_n hx hb d_Hi_record_26 rfl (lv_at hl 1 rfl) ?_
    refine lv_if_lt (tgt := 43) hx hb d_Hi_record_27 (by decide) (fun c_27 => ?_) (fun c_27 => ?_)
    · replace hf := ob_et c_27 hf
      refine lv_iload_n hx hb d_Hi_record_43 rfl (lv_at hl 1 rfl) ?_
      cases hf
      exact kI hx hb hr hlk hP hD hS d_Hi_record_44
    · replace hf := ob_ef c_27 hf
      refine lv_aload_n hx hb d_Hi_record_30 rfl (lv_at hl 0 rfl) ?_
      refine lv_aload_n hx hb d_Hi_record_31 rfl (lv_at hl 0 rfl) ?_
      refine va_get (D := G.1) (ci := 1) (v := .int v.2.2.2.2.2.2.2.1) (C := R_Hi) (T := T_Hi) (N := 3) hx hb hts in_Hi hown hK hP 0 rfl rfl 1 (by decide) (hts _ k_156) (fun _ h9 => h9) rfl d_Hi_record_32 ?_
      refine lv_iconst (v := (1 : Int32)) hx hb d_Hi_record_35 (by decide) ?_
      refine lv_iadd hx hb d_Hi_record_36 ?_
      refine lv_bipush (v := (7 : Int32)) hx hb d_Hi_record_37 (by decide) ?_
      refine lv_irem hx hb d_Hi_record_39 (by decide) ?_
      refine va_put (D := G.1) (ci := 1) (v := .int ((v.2.2.2.2.2.2.2.1 + (1 : Int32)) - (v.2.2.2.2.2.2.2.1 + (1 : Int32)) / (7 : Int32) * (7 : Int32))) (ty := .int) (C := R_Hi) (T := T_Hi) (N := 3) hx hb hts in_Hi ty_Hi ty_Hi_ok nm_Hi hown hK hP hD hS 0 rfl rfl 1 (by decide) (hts _ k_156) (fun _ h9 => h9) rfl (ty_Hi_ok 1 (by decide)) rfl rfl (Nat.le_of_ble_eq_true rfl) d_Hi_record_40 (fun H locs hP hD hS => ?_)
      have hP : va_P G.1 vwCl (W_Hi G a (v.1, v.2.1, v.2.2.1, v.2.2.2.1, v.2.2.2.2.1, v.2.2.2.2.2.1, v.2.2.2.2.2.2.1, ((v.2.2.2.2.2.2.2.1 + (1 : Int32)) - (v.2.2.2.2.2.2.2.1 + (1 : Int32)) / (7 : Int32) * (7 : Int32)), v.2.2.2.2.2.2.2.2)) H := hP
      have hD : va_D A (W_Hi G a (v.1, v.2.1, v.2.2.1, v.2.2.2.1, v.2.2.2.2.1, v.2.2.2.2.2.1, v.2.2.2.2.2.2.1, ((v.2.2.2.2.2.2.2.1 + (1 : Int32)) - (v.2.2.2.2.2.2.2.1 + (1 : Int32)) / (7 : Int32) * (7 : Int32)), v.2.2.2.2.2.2.2.2)) := hD
      refine lv_iload_n hx hb d_Hi_record_43 rfl (lv_at hl 1 rfl) ?_
      cases hf
      exact kI hx hb hr hlk hP hD hS d_Hi_record_44
  · replace hf := ob_ef c_1 hf
    refine lv_aload_n hx hb d_Hi_record_4 rfl (lv_at hl 0 rfl) ?_
    refine va_get (D := G.1) (ci := 1) (v := .int v.2.2.2.2.2.2.2.2) (C := R_Hi) (T := T_Hi) (N := 3) hx hb hts in_Hi hown hK hP 0 rfl rfl 2 (by decide) (hts _ k_157) (fun _ h9 => h9) rfl d_Hi_record_5 ?_
    refine lv_bipush (v := (6 : Int32)) hx hb d_Hi_record_8 (by decide) ?_
    refine lv_icmp_ge (tgt := 26) hx hb d_Hi_record_10 (by decide) (fun c_10 => ?_) (fun c_10 => ?_)
    · replace hf := ob_et c_10 hf
      refine lv_iload_n hx hb d_Hi_record_26 rfl (lv_at hl 1 rfl) ?_
      refine lv_if_lt (tgt := 43) hx hb d_Hi_record_27 (by decide) (fun c_27 => ?_) (fun c_27 => ?_)
      · replace hf := ob_et c_27 hf
        refine lv_iload_n hx hb d_Hi_record_43 rfl (lv_at hl 1 rfl) ?_
        cases hf
        exact kI hx hb hr hlk hP hD hS d_Hi_record_44
      · replace hf := ob_ef c_27 hf
        refine lv_aload_n hx hb d_Hi_record_30 rfl (lv_at hl 0 rfl) ?_
        refine lv_aload_n hx hb d_Hi_record_31 rfl (lv_at hl 0 rfl) ?_
        refine va_get (D := G.1) (ci := 1) (v := .int v.2.2.2.2.2.2.2.1) (C := R_Hi) (T := T_Hi) (N := 3) hx hb hts in_Hi hown hK hP 0 rfl rfl 1 (by decide) (hts _ k_156) (fun _ h9 => h9) rfl d_Hi_record_32 ?_
        refine lv_iconst (v := (1 : Int32)) hx hb d_Hi_record_35 (by decide) ?_
        refine lv_iadd hx hb d_Hi_record_36 ?_
        refine lv_bipush (v := (7 : Int32)) hx hb d_Hi_record_37 (by decide) ?_
        refine lv_irem hx hb d_Hi_record_39 (by decide) ?_
        refine va_put (D := G.1) (ci := 1) (v := .int ((v.2.2.2.2.2.2.2.1 + (1 : Int32)) - (v.2.2.2.2.2.2.2.1 + (1 : Int32)) / (7 : Int32) * (7 : Int32))) (ty := .int) (C := R_Hi) (T := T_Hi) (N := 3) hx hb hts in_Hi ty_Hi ty_Hi_ok nm_Hi hown hK hP hD hS 0 rfl rfl 1 (by decide) (hts _ k_156) (fun _ h9 => h9) rfl (ty_Hi_ok 1 (by decide)) rfl rfl (Nat.le_of_ble_eq_true rfl) d_Hi_record_40 (fun H locs hP hD hS => ?_)
        have hP : va_P G.1 vwCl (W_Hi G a (v.1, v.2.1, v.2.2.1, v.2.2.2.1, v.2.2.2.2.1, v.2.2.2.2.2.1, v.2.2.2.2.2.2.1, ((v.2.2.2.2.2.2.2.1 + (1 : Int32)) - (v.2.2.2.2.2.2.2.1 + (1 : Int32)) / (7 : Int32) * (7 : Int32)), v.2.2.2.2.2.2.2.2)) H := hP
        have hD : va_D A (W_Hi G a (v.1, v.2.1, v.2.2.1, v.2.2.2.1, v.2.2.2.2.1, v.2.2.2.2.2.1, v.2.2.2.2.2.2.1, ((v.2.2.2.2.2.2.2.1 + (1 : Int32)) - (v.2.2.2.2.2.2.2.1 + (1 : Int32)) / (7 : Int32) * (7 : Int32)), v.2.2.2.2.2.2.2.2)) := hD
        refine lv_iload_n hx hb d_Hi_record_43 rfl (lv_at hl 1 rfl) ?_
        cases hf
        exact kI hx hb hr hlk hP hD hS d_Hi_record_44
    · replace hf := ob_ef c_10 hf
      refine lv_aload_n hx hb d_Hi_record_13 rfl (lv_at hl 0 rfl) ?_
      refine lv_dup hx hb d_Hi_record_14 rfl ?_
      refine va_get (D := G.1) (ci := 1) (v := .int v.2.2.2.2.2.2.2.2) (C := R_Hi) (T := T_Hi) (N := 3) hx hb hts in_Hi hown hK hP 0 rfl rfl 2 (by decide) (hts _ k_157) (fun _ h9 => h9) rfl d_Hi_record_15 ?_
      refine lv_iconst (v := (1 : Int32)) hx hb d_Hi_record_18 (by decide) ?_
      refine lv_iadd hx hb d_Hi_record_19 ?_
      refine va_put (D := G.1) (ci := 1) (v := .int (v.2.2.2.2.2.2.2.2 + (1 : Int32))) (ty := .int) (C := R_Hi) (T := T_Hi) (N := 3) hx hb hts in_Hi ty_Hi ty_Hi_ok nm_Hi hown hK hP hD hS 0 rfl rfl 2 (by decide) (hts _ k_157) (fun _ h9 => h9) rfl (ty_Hi_ok 2 (by decide)) rfl rfl (Nat.le_of_ble_eq_true rfl) d_Hi_record_20 (fun H locs hP hD hS => ?_)
      have hP : va_P G.1 vwCl (W_Hi G a (v.1, v.2.1, v.2.2.1, v.2.2.2.1, v.2.2.2.2.1, v.2.2.2.2.2.1, v.2.2.2.2.2.2.1, v.2.2.2.2.2.2.2.1, (v.2.2.2.2.2.2.2.2 + (1 : Int32)))) H := hP
      have hD : va_D A (W_Hi G a (v.1, v.2.1, v.2.2.1, v.2.2.2.1, v.2.2.2.2.1, v.2.2.2.2.2.1, v.2.2.2.2.2.2.1, v.2.2.2.2.2.2.2.1, (v.2.2.2.2.2.2.2.2 + (1 : Int32)))) := hD
      refine lv_goto (tgt := 43) hx hb d_Hi_record_23 (by decide) ?_
      refine lv_iload_n hx hb d_Hi_record_43 rfl (lv_at hl 1 rfl) ?_
      cases hf
      exact kI hx hb hr hlk hP hD hS d_Hi_record_44
theorem pm_18 (x0 x1 x2 x3 x4 x5 x6 x7 x8 : va_W) : List.Perm ((x0 ++ (x1 ++ (x2 ++ (x3 ++ (x4 ++ (x5 ++ (x6 ++ (x7 ++ (([] : va_W)))))))))) ++ (x8)) ((x1 ++ x8) ++ (x0 ++ (x2 ++ (x3 ++ (x4 ++ (x5 ++ (x6 ++ (x7 ++ (([] : va_W)))))))))) := prm (fun d z => by first | (simp only [List.count_append, List.count_nil]; omega) | simp only [List.count_append, List.count_nil])
theorem pm_19 (x0 x1 x2 x3 x4 x5 x6 x7 x8 : va_W) : List.Perm ((x0 ++ (x1 ++ (x2 ++ (x3 ++ (x4 ++ (x5 ++ (x6 ++ (x7 ++ (([] : va_W)))))))))) ++ (x8)) ((x2 ++ x8) ++ (x0 ++ (x1 ++ (x3 ++ (x4 ++ (x5 ++ (x6 ++ (x7 ++ (([] : va_W)))))))))) := prm (fun d z => by first | (simp only [List.count_append, List.count_nil]; omega) | simp only [List.count_append, List.count_nil])
theorem pm_20 (x0 x1 x2 x3 x4 x5 x6 x7 x8 : va_W) : List.Perm ((x0 ++ (x1 ++ (x2 ++ (x3 ++ (x4 ++ (x5 ++ (x6 ++ (x7 ++ (([] : va_W)))))))))) ++ (x8)) ((x3 ++ x8) ++ (x0 ++ (x1 ++ (x2 ++ (x4 ++ (x5 ++ (x6 ++ (x7 ++ (([] : va_W)))))))))) := prm (fun d z => by first | (simp only [List.count_append, List.count_nil]; omega) | simp only [List.count_append, List.count_nil])
theorem pm_21 (x0 x1 x2 x3 x4 x5 x6 x7 x8 : va_W) : List.Perm ((x0 ++ (x1 ++ (x2 ++ (x3 ++ (x4 ++ (x5 ++ (x6 ++ (x7 ++ (([] : va_W)))))))))) ++ (x8)) ((x4 ++ x8) ++ (x0 ++ (x1 ++ (x2 ++ (x3 ++ (x5 ++ (x6 ++ (x7 ++ (([] : va_W)))))))))) := prm (fun d z => by first | (simp only [List.count_append, List.count_nil]; omega) | simp only [List.count_append, List.count_nil])
theorem pm_22 (x0 x1 x2 x3 x4 x5 x6 x7 x8 : va_W) : List.Perm ((x0 ++ (x1 ++ (x2 ++ (x3 ++ (x4 ++ (x5 ++ (x6 ++ (x7 ++ (([] : va_W)))))))))) ++ (x8)) ((x5 ++ x8) ++ (x0 ++ (x1 ++ (x2 ++ (x3 ++ (x4 ++ (x6 ++ (x7 ++ (([] : va_W)))))))))) := prm (fun d z => by first | (simp only [List.count_append, List.count_nil]; omega) | simp only [List.count_append, List.count_nil])
theorem pm_23 (x0 x1 x2 x3 x4 x5 x6 x7 x8 : va_W) : List.Perm ((x0 ++ (x1 ++ (x2 ++ (x3 ++ (x4 ++ (x5 ++ (x6 ++ (x7 ++ (([] : va_W)))))))))) ++ (x8)) ((x6 ++ x8) ++ (x0 ++ (x1 ++ (x2 ++ (x3 ++ (x4 ++ (x5 ++ (x7 ++ (([] : va_W)))))))))) := prm (fun d z => by first | (simp only [List.count_append, List.count_nil]; omega) | simp only [List.count_append, List.count_nil])
theorem pm_24 (x0 x1 x2 x3 x4 x5 x6 x7 x8 : va_W) : List.Perm ((x0 ++ (x1 ++ (x2 ++ (x3 ++ (x4 ++ (x5 ++ (x6 ++ (x7 ++ (([] : va_W)))))))))) ++ (x8)) ((x7 ++ x8) ++ (x0 ++ (x1 ++ (x2 ++ (x3 ++ (x4 ++ (x5 ++ (x6 ++ (([] : va_W)))))))))) := prm (fun d z => by first | (simp only [List.count_append, List.count_nil]; omega) | simp only [List.count_append, List.count_nil])
set_option maxHeartbeats 4000000 in
set_option maxRecDepth 100000 in
theorem t_Hi_prepare (l : Launch) (G : GG) (a : Nat → Nat) (b : Nat → Nat) (v : V_Hi) (u : V_St) (q : V_Hi) (hf : f_Hi_prepare v u = some q) : MV l G y_Hi_prepare c_Hi_prepare 3 (rmk 3 61) (W_Hi G a v ++ W_St G b u) [.ref (a 0), .ref (b 0)] (W_Hi G a q ++ W_St G b u) := by
  refine ofV "FloodDiary$History" (by decide +kernel) rfl (Nat.le_of_ble_eq_true rfl) (fun p e s m args below meth c A ls hx hb hr hml hown hts hlk hK hN hA hP hD hS hl => ?_)
  have hl : lv_has ls 3 [(0, .ref (a 0)), (1, .ref (b 0))] := hl
  unfold f_Hi_prepare at hf
  refine lv_aload_n hx hb d_Hi_prepare_0 rfl (lv_at hl 0 rfl) ?_
  refine va_get (D := G.1) (ci := 1) (v := .ref (a 1)) (C := R_Hi) (T := T_Hi) (N := 3) hx hb hts in_Hi hown hK hP 0 rfl rfl 0 (by decide) (hts _ k_155) (fun _ h9 => h9) rfl d_Hi_prepare_1 ?_
  refine lv_aload_n hx hb d_Hi_prepare_4 rfl (lv_at hl 0 rfl) ?_
  refine va_get (D := G.1) (ci := 1) (v := .int v.2.2.2.2.2.2.2.1) (C := R_Hi) (T := T_Hi) (N := 3) hx hb hts in_Hi hown hK hP 0 rfl rfl 1 (by decide) (hts _ k_156) (fun _ h9 => h9) rfl d_Hi_prepare_5 ?_
  refine lv_aload_n hx hb d_Hi_prepare_8 rfl (lv_at hl 0 rfl) ?_
  refine va_get (D := G.1) (ci := 1) (v := .int v.2.2.2.2.2.2.2.2) (C := R_Hi) (T := T_Hi) (N := 3) hx hb hts in_Hi hown hK hP 0 rfl rfl 2 (by decide) (hts _ k_157) (fun _ h9 => h9) rfl d_Hi_prepare_9 ?_
  refine lv_iadd hx hb d_Hi_prepare_12 ?_
  refine lv_bipush (v := (7 : Int32)) hx hb d_Hi_prepare_13 (by decide) ?_
  refine lv_irem hx hb d_Hi_prepare_15 (by decide) ?_
  obtain ⟨g_16, hf⟩ := og_e hf
  by_cases e_16_0 : ((v.2.2.2.2.2.2.2.1 + v.2.2.2.2.2.2.2.2) - (v.2.2.2.2.2.2.2.1 + v.2.2.2.2.2.2.2.2) / (7 : Int32) * (7 : Int32)).toNatClampNeg = 0
  · replace hf := ob_et e_16_0 hf
    refine va_aldq (C := "FloodDiary$State") hx hb hK hP 1 3 rfl rfl g_16 d_Hi_prepare_16 ?_
    refine W.eq (g2 := F0 m 17 ls [.ref (a 2)]) (by first | (rw [e_16_0]; rfl) | rfl) ?_
    refine lv_astore_n (lv' := [(2, .ref (a 2)), (0, .ref (a 0)), (1, .ref (b 0))]) hx hb d_Hi_prepare_17 rfl hl (by decide) rfl (fun ls hl => ?_)
    refine lv_aload_n hx hb d_Hi_prepare_18 rfl (lv_at hl 0 rfl) ?_
    refine lv_ifnull hx hb d_Hi_prepare_19 ?_
    refine lv_aload_n hx hb d_Hi_prepare_22 rfl (lv_at hl 0 rfl) ?_
    refine lv_aload_n hx hb d_Hi_prepare_23 rfl (lv_at hl 2 rfl) ?_
    obtain ⟨q_24, hc_24, hf⟩ := oc_e hf
    refine kcVv (cc := c_Hi_prepare) (own := "FloodDiary$History") (index := 25) (wc := W_St G (sh a 2) v.1 ++ W_St G b u) (wr := O_Hi G a v ++ (W_St G (sh a 22) v.2.1 ++ (W_St G (sh a 42) v.2.2.1 ++ (W_St G (sh a 62) v.2.2.2.1 ++ (W_St G (sh a 82) v.2.2.2.2.1 ++ (W_St G (sh a 102) v.2.2.2.2.2.1 ++ (W_St G (sh a 122) v.2.2.2.2.2.2.1 ++ (([] : va_W))))))))) (wc' := W_St G (sh a 2) q_24 ++ W_St G b u) (ws' := W_Hi G a (q_24, v.2.1, v.2.2.1, v.2.2.2.1, v.2.2.2.2.1, v.2.2.2.2.2.1, v.2.2.2.2.2.2.1, v.2.2.2.2.2.2.2.1, v.2.2.2.2.2.2.2.2) ++ W_St G b u) hx hb hml hown hts hK hN hA hP hD hS (t_St_become l G (sh a 2) b v.1 u q_24 hc_24) m_St_become k_245 ⟨Nat.le_of_ble_eq_true rfl, Nat.le_of_ble_eq_true rfl⟩ (pm_18 (O_Hi G a v) (W_St G (sh a 2) v.1) (W_St G (sh a 22) v.2.1) (W_St G (sh a 42) v.2.2.1) (W_St G (sh a 62) v.2.2.2.1) (W_St G (sh a 82) v.2.2.2.2.1) (W_St G (sh a 102) v.2.2.2.2.2.1) (W_St G (sh a 122) v.2.2.2.2.2.2.1) (W_St G b u)) (pm_18 (O_Hi G a (q_24, v.2.1, v.2.2.1, v.2.2.2.1, v.2.2.2.2.1, v.2.2.2.2.2.1, v.2.2.2.2.2.2.1, v.2.2.2.2.2.2.2.1, v.2.2.2.2.2.2.2.2)) (W_St G (sh a 2) q_24) (W_St G (sh a 22) v.2.1) (W_St G (sh a 42) v.2.2.1) (W_St G (sh a 62) v.2.2.2.1) (W_St G (sh a 82) v.2.2.2.2.1) (W_St G (sh a 102) v.2.2.2.2.2.1) (W_St G (sh a 122) v.2.2.2.2.2.2.1) (W_St G b u)).symm 6 0 rfl rfl rfl rfl rfl (Nat.le_of_ble_eq_true rfl) hl.1 d_Hi_prepare_24 ⟨Nat.zero_le _, Nat.zero_le _⟩ (fun H locs hP hD hS => ?_)
    cases hf
    exact kV hx hb hr hlk hP hD hS d_Hi_prepare_27
  · replace hf := ob_ef e_16_0 hf
    by_cases e_16_1 : ((v.2.2.2.2.2.2.2.1 + v.2.2.2.2.2.2.2.2) - (v.2.2.2.2.2.2.2.1 + v.2.2.2.2.2.2.2.2) / (7 : Int32) * (7 : Int32)).toNatClampNeg = 1
    · replace hf := ob_et e_16_1 hf
      refine va_aldq (C := "FloodDiary$State") hx hb hK hP 1 3 rfl rfl g_16 d_Hi_prepare_16 ?_
      refine W.eq (g2 := F0 m 17 ls [.ref (a 22)]) (by first | (rw [e_16_1]; rfl) | rfl) ?_
      refine lv_astore_n (lv' := [(2, .ref (a 22)), (0, .ref (a 0)), (1, .ref (b 0))]) hx hb d_Hi_prepare_17 rfl hl (by decide) rfl (fun ls hl => ?_)
      refine lv_aload_n hx hb d_Hi_prepare_18 rfl (lv_at hl 0 rfl) ?_
      refine lv_ifnull hx hb d_Hi_prepare_19 ?_
      refine lv_aload_n hx hb d_Hi_prepare_22 rfl (lv_at hl 0 rfl) ?_
      refine lv_aload_n hx hb d_Hi_prepare_23 rfl (lv_at hl 2 rfl) ?_
      obtain ⟨q_24, hc_24, hf⟩ := oc_e hf
      refine kcVv (cc := c_Hi_prepare) (own := "FloodDiary$History") (index := 25) (wc := W_St G (sh a 22) v.2.1 ++ W_St G b u) (wr := O_Hi G a v ++ (W_St G (sh a 2) v.1 ++ (W_St G (sh a 42) v.2.2.1 ++ (W_St G (sh a 62) v.2.2.2.1 ++ (W_St G (sh a 82) v.2.2.2.2.1 ++ (W_St G (sh a 102) v.2.2.2.2.2.1 ++ (W_St G (sh a 122) v.2.2.2.2.2.2.1 ++ (([] : va_W))))))))) (wc' := W_St G (sh a 22) q_24 ++ W_St G b u) (ws' := W_Hi G a (v.1, q_24, v.2.2.1, v.2.2.2.1, v.2.2.2.2.1, v.2.2.2.2.2.1, v.2.2.2.2.2.2.1, v.2.2.2.2.2.2.2.1, v.2.2.2.2.2.2.2.2) ++ W_St G b u) hx hb hml hown hts hK hN hA hP hD hS (t_St_become l G (sh a 22) b v.2.1 u q_24 hc_24) m_St_become k_245 ⟨Nat.le_of_ble_eq_true rfl, Nat.le_of_ble_eq_true rfl⟩ (pm_19 (O_Hi G a v) (W_St G (sh a 2) v.1) (W_St G (sh a 22) v.2.1) (W_St G (sh a 42) v.2.2.1) (W_St G (sh a 62) v.2.2.2.1) (W_St G (sh a 82) v.2.2.2.2.1) (W_St G (sh a 102) v.2.2.2.2.2.1) (W_St G (sh a 122) v.2.2.2.2.2.2.1) (W_St G b u)) (pm_19 (O_Hi G a (v.1, q_24, v.2.2.1, v.2.2.2.1, v.2.2.2.2.1, v.2.2.2.2.2.1, v.2.2.2.2.2.2.1, v.2.2.2.2.2.2.2.1, v.2.2.2.2.2.2.2.2)) (W_St G (sh a 2) v.1) (W_St G (sh a 22) q_24) (W_St G (sh a 42) v.2.2.1) (W_St G (sh a 62) v.2.2.2.1) (W_St G (sh a 82) v.2.2.2.2.1) (W_St G (sh a 102) v.2.2.2.2.2.1) (W_St G (sh a 122) v.2.2.2.2.2.2.1) (W_St G b u)).symm 6 0 rfl rfl rfl rfl rfl (Nat.le_of_ble_eq_true rfl) hl.1 d_Hi_prepare_24 ⟨Nat.zero_le _, Nat.zero_le _⟩ (fun H locs hP hD hS => ?_)
      cases hf
      exact kV hx hb hr hlk hP hD hS d_Hi_prepare_27
    · replace hf := ob_ef e_16_1 hf
      by_cases e_16_2 : ((v.2.2.2.2.2.2.2.1 + v.2.2.2.2.2.2.2.2) - (v.2.2.2.2.2.2.2.1 + v.2.2.2.2.2.2.2.2) / (7 : Int32) * (7 : Int32)).toNatClampNeg = 2
      · replace hf := ob_et e_16_2 hf
        refine va_aldq (C := "FloodDiary$State") hx hb hK hP 1 3 rfl rfl g_16 d_Hi_prepare_16 ?_
        refine W.eq (g2 := F0 m 17 ls [.ref (a 42)]) (by first | (rw [e_16_2]; rfl) | rfl) ?_
        refine lv_astore_n (lv' := [(2, .ref (a 42)), (0, .ref (a 0)), (1, .ref (b 0))]) hx hb d_Hi_prepare_17 rfl hl (by decide) rfl (fun ls hl => ?_)
        refine lv_aload_n hx hb d_Hi_prepare_18 rfl (lv_at hl 0 rfl) ?_
        refine lv_ifnull hx hb d_Hi_prepare_19 ?_
        refine lv_aload_n hx hb d_Hi_prepare_22 rfl (lv_at hl 0 rfl) ?_
        refine lv_aload_n hx hb d_Hi_prepare_23 rfl (lv_at hl 2 rfl) ?_
        obtain ⟨q_24, hc_24, hf⟩ := oc_e hf
        refine kcVv (cc := c_Hi_prepare) (own := "FloodDiary$History") (index := 25) (wc := W_St G (sh a 42) v.2.2.1 ++ W_St G b u) (wr := O_Hi G a v ++ (W_St G (sh a 2) v.1 ++ (W_St G (sh a 22) v.2.1 ++ (W_St G (sh a 62) v.2.2.2.1 ++ (W_St G (sh a 82) v.2.2.2.2.1 ++ (W_St G (sh a 102) v.2.2.2.2.2.1 ++ (W_St G (sh a 122) v.2.2.2.2.2.2.1 ++ (([] : va_W))))))))) (wc' := W_St G (sh a 42) q_24 ++ W_St G b u) (ws' := W_Hi G a (v.1, v.2.1, q_24, v.2.2.2.1, v.2.2.2.2.1, v.2.2.2.2.2.1, v.2.2.2.2.2.2.1, v.2.2.2.2.2.2.2.1, v.2.2.2.2.2.2.2.2) ++ W_St G b u) hx hb hml hown hts hK hN hA hP hD hS (t_St_become l G (sh a 42) b v.2.2.1 u q_24 hc_24) m_St_become k_245 ⟨Nat.le_of_ble_eq_true rfl, Nat.le_of_ble_eq_true rfl⟩ (pm_20 (O_Hi G a v) (W_St G (sh a 2) v.1) (W_St G (sh a 22) v.2.1) (W_St G (sh a 42) v.2.2.1) (W_St G (sh a 62) v.2.2.2.1) (W_St G (sh a 82) v.2.2.2.2.1) (W_St G (sh a 102) v.2.2.2.2.2.1) (W_St G (sh a 122) v.2.2.2.2.2.2.1) (W_St G b u)) (pm_20 (O_Hi G a (v.1, v.2.1, q_24, v.2.2.2.1, v.2.2.2.2.1, v.2.2.2.2.2.1, v.2.2.2.2.2.2.1, v.2.2.2.2.2.2.2.1, v.2.2.2.2.2.2.2.2)) (W_St G (sh a 2) v.1) (W_St G (sh a 22) v.2.1) (W_St G (sh a 42) q_24) (W_St G (sh a 62) v.2.2.2.1) (W_St G (sh a 82) v.2.2.2.2.1) (W_St G (sh a 102) v.2.2.2.2.2.1) (W_St G (sh a 122) v.2.2.2.2.2.2.1) (W_St G b u)).symm 6 0 rfl rfl rfl rfl rfl (Nat.le_of_ble_eq_true rfl) hl.1 d_Hi_prepare_24 ⟨Nat.zero_le _, Nat.zero_le _⟩ (fun H locs hP hD hS => ?_)
        cases hf
        exact kV hx hb hr hlk hP hD hS d_Hi_prepare_27
      · replace hf := ob_ef e_16_2 hf
        by_cases e_16_3 : ((v.2.2.2.2.2.2.2.1 + v.2.2.2.2.2.2.2.2) - (v.2.2.2.2.2.2.2.1 + v.2.2.2.2.2.2.2.2) / (7 : Int32) * (7 : Int32)).toNatClampNeg = 3
        · replace hf := ob_et e_16_3 hf
          refine va_aldq (C := "FloodDiary$State") hx hb hK hP 1 3 rfl rfl g_16 d_Hi_prepare_16 ?_
          refine W.eq (g2 := F0 m 17 ls [.ref (a 62)]) (by first | (rw [e_16_3]; rfl) | rfl) ?_
          refine lv_astore_n (lv' := [(2, .ref (a 62)), (0, .ref (a 0)), (1, .ref (b 0))]) hx hb d_Hi_prepare_17 rfl hl (by decide) rfl (fun ls hl => ?_)
          refine lv_aload_n hx hb d_Hi_prepare_18 rfl (lv_at hl 0 rfl) ?_
          refine lv_ifnull hx hb d_Hi_prepare_19 ?_
          refine lv_aload_n hx hb d_Hi_prepare_22 rfl (lv_at hl 0 rfl) ?_
          refine lv_aload_n hx hb d_Hi_prepare_23 rfl (lv_at hl 2 rfl) ?_
          obtain ⟨q_24, hc_24, hf⟩ := oc_e hf
          refine kcVv (cc := c_Hi_prepare) (own := "FloodDiary$History") (index := 25) (wc := W_St G (sh a 62) v.2.2.2.1 ++ W_St G b u) (wr := O_Hi G a v ++ (W_St G (sh a 2) v.1 ++ (W_St G (sh a 22) v.2.1 ++ (W_St G (sh a 42) v.2.2.1 ++ (W_St G (sh a 82) v.2.2.2.2.1 ++ (W_St G (sh a 102) v.2.2.2.2.2.1 ++ (W_St G (sh a 122) v.2.2.2.2.2.2.1 ++ (([] : va_W))))))))) (wc' := W_St G (sh a 62) q_24 ++ W_St G b u) (ws' := W_Hi G a (v.1, v.2.1, v.2.2.1, q_24, v.2.2.2.2.1, v.2.2.2.2.2.1, v.2.2.2.2.2.2.1, v.2.2.2.2.2.2.2.1, v.2.2.2.2.2.2.2.2) ++ W_St G b u) hx hb hml hown hts hK hN hA hP hD hS (t_St_become l G (sh a 62) b v.2.2.2.1 u q_24 hc_24) m_St_become k_245 ⟨Nat.le_of_ble_eq_true rfl, Nat.le_of_ble_eq_true rfl⟩ (pm_21 (O_Hi G a v) (W_St G (sh a 2) v.1) (W_St G (sh a 22) v.2.1) (W_St G (sh a 42) v.2.2.1) (W_St G (sh a 62) v.2.2.2.1) (W_St G (sh a 82) v.2.2.2.2.1) (W_St G (sh a 102) v.2.2.2.2.2.1) (W_St G (sh a 122) v.2.2.2.2.2.2.1) (W_St G b u)) (pm_21 (O_Hi G a (v.1, v.2.1, v.2.2.1, q_24, v.2.2.2.2.1, v.2.2.2.2.2.1, v.2.2.2.2.2.2.1, v.2.2.2.2.2.2.2.1, v.2.2.2.2.2.2.2.2)) (W_St G (sh a 2) v.1) (W_St G (sh a 22) v.2.1) (W_St G (sh a 42) v.2.2.1) (W_St G (sh a 62) q_24) (W_St G (sh a 82) v.2.2.2.2.1) (W_St G (sh a 102) v.2.2.2.2.2.1) (W_St G (sh a 122) v.2.2.2.2.2.2.1) (W_St G b u)).symm 6 0 rfl rfl rfl rfl rfl (Nat.le_of_ble_eq_true rfl) hl.1 d_Hi_prepare_24 ⟨Nat.zero_le _, Nat.zero_le _⟩ (fun H locs hP hD hS => ?_)
          cases hf
          exact kV hx hb hr hlk hP hD hS d_Hi_prepare_27
        · replace hf := ob_ef e_16_3 hf
          by_cases e_16_4 : ((v.2.2.2.2.2.2.2.1 + v.2.2.2.2.2.2.2.2) - (v.2.2.2.2.2.2.2.1 + v.2.2.2.2.2.2.2.2) / (7 : Int32) * (7 : Int32)).toNatClampNeg = 4
          · replace hf := ob_et e_16_4 hf
            refine va_aldq (C := "FloodDiary$State") hx hb hK hP 1 3 rfl rfl g_16 d_Hi_prepare_16 ?_
            refine W.eq (g2 := F0 m 17 ls [.ref (a 82)]) (by first | (rw [e_16_4]; rfl) | rfl) ?_
            refine lv_astore_n (lv' := [(2, .ref (a 82)), (0, .ref (a 0)), (1, .ref (b 0))]) hx hb d_Hi_prepare_17 rfl hl (by decide) rfl (fun ls hl => ?_)
            refine lv_aload_n hx hb d_Hi_prepare_18 rfl (lv_at hl 0 rfl) ?_
            refine lv_ifnull hx hb d_Hi_prepare_19 ?_
            refine lv_aload_n hx hb d_Hi_prepare_22 rfl (lv_at hl 0 rfl) ?_
            refine lv_aload_n hx hb d_Hi_prepare_23 rfl (lv_at hl 2 rfl) ?_
            obtain ⟨q_24, hc_24, hf⟩ := oc_e hf
            refine kcVv (cc := c_Hi_prepare) (own := "FloodDiary$History") (index := 25) (wc := W_St G (sh a 82) v.2.2.2.2.1 ++ W_St G b u) (wr := O_Hi G a v ++ (W_St G (sh a 2) v.1 ++ (W_St G (sh a 22) v.2.1 ++ (W_St G (sh a 42) v.2.2.1 ++ (W_St G (sh a 62) v.2.2.2.1 ++ (W_St G (sh a 102) v.2.2.2.2.2.1 ++ (W_St G (sh a 122) v.2.2.2.2.2.2.1 ++ (([] : va_W))))))))) (wc' := W_St G (sh a 82) q_24 ++ W_St G b u) (ws' := W_Hi G a (v.1, v.2.1, v.2.2.1, v.2.2.2.1, q_24, v.2.2.2.2.2.1, v.2.2.2.2.2.2.1, v.2.2.2.2.2.2.2.1, v.2.2.2.2.2.2.2.2) ++ W_St G b u) hx hb hml hown hts hK hN hA hP hD hS (t_St_become l G (sh a 82) b v.2.2.2.2.1 u q_24 hc_24) m_St_become k_245 ⟨Nat.le_of_ble_eq_true rfl, Nat.le_of_ble_eq_true rfl⟩ (pm_22 (O_Hi G a v) (W_St G (sh a 2) v.1) (W_St G (sh a 22) v.2.1) (W_St G (sh a 42) v.2.2.1) (W_St G (sh a 62) v.2.2.2.1) (W_St G (sh a 82) v.2.2.2.2.1) (W_St G (sh a 102) v.2.2.2.2.2.1) (W_St G (sh a 122) v.2.2.2.2.2.2.1) (W_St G b u)) (pm_22 (O_Hi G a (v.1, v.2.1, v.2.2.1, v.2.2.2.1, q_24, v.2.2.2.2.2.1, v.2.2.2.2.2.2.1, v.2.2.2.2.2.2.2.1, v.2.2.2.2.2.2.2.2)) (W_St G (sh a 2) v.1) (W_St G (sh a 22) v.2.1) (W_St G (sh a 42) v.2.2.1) (W_St G (sh a 62) v.2.2.2.1) (W_St G (sh a 82) q_24) (W_St G (sh a 102) v.2.2.2.2.2.1) (W_St G (sh a 122) v.2.2.2.2.2.2.1) (W_St G b u)).symm 6 0 rfl rfl rfl rfl rfl (Nat.le_of_ble_eq_true rfl) hl.1 d_Hi_prepare_24 ⟨Nat.zero_le _, Nat.zero_le _⟩ (fun H locs hP hD hS => ?_)
            cases hf
            exact kV hx hb hr hlk hP hD hS d_Hi_prepare_27
          · replace hf := ob_ef e_16_4 hf
            by_cases e_16_5 : ((v.2.2.2.2.2.2.2.1 + v.2.2.2.2.2.2.2.2) - (v.2.2.2.2.2.2.2.1 + v.2.2.2.2.2.2.2.2) / (7 : Int32) * (7 : Int32)).toNatClampNeg = 5
            · replace hf := ob_et e_16_5 hf
              refine va_aldq (C := "FloodDiary$State") hx hb hK hP 1 3 rfl rfl g_16 d_Hi_prepare_16 ?_
              refine W.eq (g2 := F0 m 17 ls [.ref (a 102)]) (by first | (rw [e_16_5]; rfl) | rfl) ?_
              refine lv_astore_n (lv' := [(2, .ref (a 102)), (0, .ref (a 0)), (1, .ref (b 0))]) hx hb d_Hi_prepare_17 rfl hl (by decide) rfl (fun ls hl => ?_)
              refine lv_aload_n hx hb d_Hi_prepare_18 rfl (lv_at hl 0 rfl) ?_
              refine lv_ifnull hx hb d_Hi_prepare_19 ?_
              refine lv_aload_n hx hb d_Hi_prepare_22 rfl (lv_at hl 0 rfl) ?_
              refine lv_aload_n hx hb d_Hi_prepare_23 rfl (lv_at hl 2 rfl) ?_
              obtain ⟨q_24, hc_24, hf⟩ := oc_e hf
              refine kcVv (cc := c_Hi_prepare) (own := "FloodDiary$History") (index := 25) (wc := W_St G (sh a 102) v.2.2.2.2.2.1 ++ W_St G b u) (wr := O_Hi G a v ++ (W_St G (sh a 2) v.1 ++ (W_St G (sh a 22) v.2.1 ++ (W_St G (sh a 42) v.2.2.1 ++ (W_St G (sh a 62) v.2.2.2.1 ++ (W_St G (sh a 82) v.2.2.2.2.1 ++ (W_St G (sh a 122) v.2.2.2.2.2.2.1 ++ (([] : va_W))))))))) (wc' := W_St G (sh a 102) q_24 ++ W_St G b u) (ws' := W_Hi G a (v.1, v.2.1, v.2.2.1, v.2.2.2.1, v.2.2.2.2.1, q_24, v.2.2.2.2.2.2.1, v.2.2.2.2.2.2.2.1, v.2.2.2.2.2.2.2.2) ++ W_St G b u) hx hb hml hown hts hK hN hA hP hD hS (t_St_become l G (sh a 102) b v.2.2.2.2.2.1 u q_24 hc_24) m_St_become k_245 ⟨Nat.le_of_ble_eq_true rfl, Nat.le_of_ble_eq_true rfl⟩ (pm_23 (O_Hi G a v) (W_St G (sh a 2) v.1) (W_St G (sh a 22) v.2.1) (W_St G (sh a 42) v.2.2.1) (W_St G (sh a 62) v.2.2.2.1) (W_St G (sh a 82) v.2.2.2.2.1) (W_St G (sh a 102) v.2.2.2.2.2.1) (W_St G (sh a 122) v.2.2.2.2.2.2.1) (W_St G b u)) (pm_23 (O_Hi G a (v.1, v.2.1, v.2.2.1, v.2.2.2.1, v.2.2.2.2.1, q_24, v.2.2.2.2.2.2.1, v.2.2.2.2.2.2.2.1, v.2.2.2.2.2.2.2.2)) (W_St G (sh a 2) v.1) (W_St G (sh a 22) v.2.1) (W_St G (sh a 42) v.2.2.1) (W_St G (sh a 62) v.2.2.2.1) (W_St G (sh a 82) v.2.2.2.2.1) (W_St G (sh a 102) q_24) (W_St G (sh a 122) v.2.2.2.2.2.2.1) (W_St G b u)).symm 6 0 rfl rfl rfl rfl rfl (Nat.le_of_ble_eq_true rfl) hl.1 d_Hi_prepare_24 ⟨Nat.zero_le _, Nat.zero_le _⟩ (fun H locs hP hD hS => ?_)
              cases hf
              exact kV hx hb hr hlk hP hD hS d_Hi_prepare_27
            · replace hf := ob_ef e_16_5 hf
              by_cases e_16_6 : ((v.2.2.2.2.2.2.2.1 + v.2.2.2.2.2.2.2.2) - (v.2.2.2.2.2.2.2.1 + v.2.2.2.2.2.2.2.2) / (7 : Int32) * (7 : Int32)).toNatClampNeg = 6
              · replace hf := ob_et e_16_6 hf
                refine va_aldq (C := "FloodDiary$State") hx hb hK hP 1 3 rfl rfl g_16 d_Hi_prepare_16 ?_
                refine W.eq (g2 := F0 m 17 ls [.ref (a 122)]) (by first | (rw [e_16_6]; rfl) | rfl) ?_
                refine lv_astore_n (lv' := [(2, .ref (a 122)), (0, .ref (a 0)), (1, .ref (b 0))]) hx hb d_Hi_prepare_17 rfl hl (by decide) rfl (fun ls hl => ?_)
                refine lv_aload_n hx hb d_Hi_prepare_18 rfl (lv_at hl 0 rfl) ?_
                refine lv_ifnull hx hb d_Hi_prepare_19 ?_
                refine lv_aload_n hx hb d_Hi_prepare_22 rfl (lv_at hl 0 rfl) ?_
                refine lv_aload_n hx hb d_Hi_prepare_23 rfl (lv_at hl 2 rfl) ?_
                obtain ⟨q_24, hc_24, hf⟩ := oc_e hf
                refine kcVv (cc := c_Hi_prepare) (own := "FloodDiary$History") (index := 25) (wc := W_St G (sh a 122) v.2.2.2.2.2.2.1 ++ W_St G b u) (wr := O_Hi G a v ++ (W_St G (sh a 2) v.1 ++ (W_St G (sh a 22) v.2.1 ++ (W_St G (sh a 42) v.2.2.1 ++ (W_St G (sh a 62) v.2.2.2.1 ++ (W_St G (sh a 82) v.2.2.2.2.1 ++ (W_St G (sh a 102) v.2.2.2.2.2.1 ++ (([] : va_W))))))))) (wc' := W_St G (sh a 122) q_24 ++ W_St G b u) (ws' := W_Hi G a (v.1, v.2.1, v.2.2.1, v.2.2.2.1, v.2.2.2.2.1, v.2.2.2.2.2.1, q_24, v.2.2.2.2.2.2.2.1, v.2.2.2.2.2.2.2.2) ++ W_St G b u) hx hb hml hown hts hK hN hA hP hD hS (t_St_become l G (sh a 122) b v.2.2.2.2.2.2.1 u q_24 hc_24) m_St_become k_245 ⟨Nat.le_of_ble_eq_true rfl, Nat.le_of_ble_eq_true rfl⟩ (pm_24 (O_Hi G a v) (W_St G (sh a 2) v.1) (W_St G (sh a 22) v.2.1) (W_St G (sh a 42) v.2.2.1) (W_St G (sh a 62) v.2.2.2.1) (W_St G (sh a 82) v.2.2.2.2.1) (W_St G (sh a 102) v.2.2.2.2.2.1) (W_St G (sh a 122) v.2.2.2.2.2.2.1) (W_St G b u)) (pm_24 (O_Hi G a (v.1, v.2.1, v.2.2.1, v.2.2.2.1, v.2.2.2.2.1, v.2.2.2.2.2.1, q_24, v.2.2.2.2.2.2.2.1, v.2.2.2.2.2.2.2.2)) (W_St G (sh a 2) v.1) (W_St G (sh a 22) v.2.1) (W_St G (sh a 42) v.2.2.1) (W_St G (sh a 62) v.2.2.2.1) (W_St G (sh a 82) v.2.2.2.2.1) (W_St G (sh a 102) v.2.2.2.2.2.1) (W_St G (sh a 122) q_24) (W_St G b u)).symm 6 0 rfl rfl rfl rfl rfl (Nat.le_of_ble_eq_true rfl) hl.1 d_Hi_prepare_24 ⟨Nat.zero_le _, Nat.zero_le _⟩ (fun H locs hP hD hS => ?_)
                cases hf
                exact kV hx hb hr hlk hP hD hS d_Hi_prepare_27
              · replace hf := ob_ef e_16_6 hf
                cases hf
theorem pm_25 (x0 x1 x2 x3 x4 x5 x6 x7 x8 : va_W) : List.Perm ((x0 ++ (x1 ++ (x2 ++ (x3 ++ (x4 ++ (x5 ++ (x6 ++ (x7 ++ (([] : va_W)))))))))) ++ (x8)) ((x8 ++ x1) ++ (x0 ++ (x2 ++ (x3 ++ (x4 ++ (x5 ++ (x6 ++ (x7 ++ (([] : va_W)))))))))) := prm (fun d z => by first | (simp only [List.count_append, List.count_nil]; omega) | simp only [List.count_append, List.count_nil])
theorem pm_26 (x0 x1 x2 x3 x4 x5 x6 x7 x8 : va_W) : List.Perm ((x0 ++ (x1 ++ (x2 ++ (x3 ++ (x4 ++ (x5 ++ (x6 ++ (x7 ++ (([] : va_W)))))))))) ++ (x8)) ((x8 ++ x2) ++ (x0 ++ (x1 ++ (x3 ++ (x4 ++ (x5 ++ (x6 ++ (x7 ++ (([] : va_W)))))))))) := prm (fun d z => by first | (simp only [List.count_append, List.count_nil]; omega) | simp only [List.count_append, List.count_nil])
theorem pm_27 (x0 x1 x2 x3 x4 x5 x6 x7 x8 : va_W) : List.Perm ((x0 ++ (x1 ++ (x2 ++ (x3 ++ (x4 ++ (x5 ++ (x6 ++ (x7 ++ (([] : va_W)))))))))) ++ (x8)) ((x8 ++ x3) ++ (x0 ++ (x1 ++ (x2 ++ (x4 ++ (x5 ++ (x6 ++ (x7 ++ (([] : va_W)))))))))) := prm (fun d z => by first | (simp only [List.count_append, List.count_nil]; omega) | simp only [List.count_append, List.count_nil])
theorem pm_28 (x0 x1 x2 x3 x4 x5 x6 x7 x8 : va_W) : List.Perm ((x0 ++ (x1 ++ (x2 ++ (x3 ++ (x4 ++ (x5 ++ (x6 ++ (x7 ++ (([] : va_W)))))))))) ++ (x8)) ((x8 ++ x4) ++ (x0 ++ (x1 ++ (x2 ++ (x3 ++ (x5 ++ (x6 ++ (x7 ++ (([] : va_W)))))))))) := prm (fun d z => by first | (simp only [List.count_append, List.count_nil]; omega) | simp only [List.count_append, List.count_nil])
theorem pm_29 (x0 x1 x2 x3 x4 x5 x6 x7 x8 : va_W) : List.Perm ((x0 ++ (x1 ++ (x2 ++ (x3 ++ (x4 ++ (x5 ++ (x6 ++ (x7 ++ (([] : va_W)))))))))) ++ (x8)) ((x8 ++ x5) ++ (x0 ++ (x1 ++ (x2 ++ (x3 ++ (x4 ++ (x6 ++ (x7 ++ (([] : va_W)))))))))) := prm (fun d z => by first | (simp only [List.count_append, List.count_nil]; omega) | simp only [List.count_append, List.count_nil])
theorem pm_30 (x0 x1 x2 x3 x4 x5 x6 x7 x8 : va_W) : List.Perm ((x0 ++ (x1 ++ (x2 ++ (x3 ++ (x4 ++ (x5 ++ (x6 ++ (x7 ++ (([] : va_W)))))))))) ++ (x8)) ((x8 ++ x6) ++ (x0 ++ (x1 ++ (x2 ++ (x3 ++ (x4 ++ (x5 ++ (x7 ++ (([] : va_W)))))))))) := prm (fun d z => by first | (simp only [List.count_append, List.count_nil]; omega) | simp only [List.count_append, List.count_nil])
theorem pm_31 (x0 x1 x2 x3 x4 x5 x6 x7 x8 : va_W) : List.Perm ((x0 ++ (x1 ++ (x2 ++ (x3 ++ (x4 ++ (x5 ++ (x6 ++ (x7 ++ (([] : va_W)))))))))) ++ (x8)) ((x8 ++ x7) ++ (x0 ++ (x1 ++ (x2 ++ (x3 ++ (x4 ++ (x5 ++ (x6 ++ (([] : va_W)))))))))) := prm (fun d z => by first | (simp only [List.count_append, List.count_nil]; omega) | simp only [List.count_append, List.count_nil])
set_option maxHeartbeats 4000000 in
set_option maxRecDepth 100000 in
theorem t_Hi_takeBack (l : Launch) (G : GG) (a : Nat → Nat) (b : Nat → Nat) (v : V_Hi) (u : V_St) (q : V_Hi × V_St) (hf : f_Hi_takeBack v u = some q) : MV l G y_Hi_takeBack c_Hi_takeBack 3 (rmk 3 61) (W_Hi G a v ++ W_St G b u) [.ref (a 0), .ref (b 0)] (W_Hi G a q.1 ++ W_St G b q.2) := by
  refine ofV "FloodDiary$History" (by decide +kernel) rfl (Nat.le_of_ble_eq_true rfl) (fun p e s m args below meth c A ls hx hb hr hml hown hts hlk hK hN hA hP hD hS hl => ?_)
  have hl : lv_has ls 3 [(0, .ref (a 0)), (1, .ref (b 0))] := hl
  unfold f_Hi_takeBack at hf
  refine lv_aload_n hx hb d_Hi_takeBack_0 rfl (lv_at hl 0 rfl) ?_
  refine va_get (D := G.1) (ci := 1) (v := .int v.2.2.2.2.2.2.2.2) (C := R_Hi) (T := T_Hi) (N := 3) hx hb hts in_Hi hown hK hP 0 rfl rfl 2 (by decide) (hts _ k_157) (fun _ h9 => h9) rfl d_Hi_takeBack_1 ?_
  refine lv_if_le (tgt := 44) hx hb d_Hi_takeBack_4 (by decide) (fun c_4 => ?_) (fun c_4 => ?_)
  · replace hf := ob_et c_4 hf
    cases hf
    exact kV hx hb hr hlk hP hD hS d_Hi_takeBack_44
  · replace hf := ob_ef c_4 hf
    refine lv_aload_n hx hb d_Hi_takeBack_7 rfl (lv_at hl 0 rfl) ?_
    refine lv_dup hx hb d_Hi_takeBack_8 rfl ?_
    refine va_get (D := G.1) (ci := 1) (v := .int v.2.2.2.2.2.2.2.2) (C := R_Hi) (T := T_Hi) (N := 3) hx hb hts in_Hi hown hK hP 0 rfl rfl 2 (by decide) (hts _ k_157) (fun _ h9 => h9) rfl d_Hi_takeBack_9 ?_
    refine lv_iconst (v := (1 : Int32)) hx hb d_Hi_takeBack_12 (by decide) ?_
    refine lv_isub hx hb d_Hi_takeBack_13 ?_
    refine va_put (D := G.1) (ci := 1) (v := .int (v.2.2.2.2.2.2.2.2 - (1 : Int32))) (ty := .int) (C := R_Hi) (T := T_Hi) (N := 3) hx hb hts in_Hi ty_Hi ty_Hi_ok nm_Hi hown hK hP hD hS 0 rfl rfl 2 (by decide) (hts _ k_157) (fun _ h9 => h9) rfl (ty_Hi_ok 2 (by decide)) rfl rfl (Nat.le_of_ble_eq_true rfl) d_Hi_takeBack_14 (fun H locs hP hD hS => ?_)
    have hP : va_P G.1 vwCl (W_Hi G a (v.1, v.2.1, v.2.2.1, v.2.2.2.1, v.2.2.2.2.1, v.2.2.2.2.2.1, v.2.2.2.2.2.2.1, v.2.2.2.2.2.2.2.1, (v.2.2.2.2.2.2.2.2 - (1 : Int32))) ++ W_St G b u) H := hP
    have hD : va_D A (W_Hi G a (v.1, v.2.1, v.2.2.1, v.2.2.2.1, v.2.2.2.2.1, v.2.2.2.2.2.1, v.2.2.2.2.2.2.1, v.2.2.2.2.2.2.2.1, (v.2.2.2.2.2.2.2.2 - (1 : Int32))) ++ W_St G b u) := hD
    refine lv_aload_n hx hb d_Hi_takeBack_17 rfl (lv_at hl 0 rfl) ?_
    refine va_get (D := G.1) (ci := 1) (v := .ref (a 1)) (C := R_Hi) (T := T_Hi) (N := 3) hx hb hts in_Hi hown hK hP 0 rfl rfl 0 (by decide) (hts _ k_155) (fun _ h9 => h9) rfl d_Hi_takeBack_18 ?_
    refine lv_aload_n hx hb d_Hi_takeBack_21 rfl (lv_at hl 0 rfl) ?_
    refine va_get (D := G.1) (ci := 1) (v := .int v.2.2.2.2.2.2.2.1) (C := R_Hi) (T := T_Hi) (N := 3) hx hb hts in_Hi hown hK hP 0 rfl rfl 1 (by decide) (hts _ k_156) (fun _ h9 => h9) rfl d_Hi_takeBack_22 ?_
    refine lv_aload_n hx hb d_Hi_takeBack_25 rfl (lv_at hl 0 rfl) ?_
    refine va_get (D := G.1) (ci := 1) (v := .int (v.2.2.2.2.2.2.2.2 - (1 : Int32))) (C := R_Hi) (T := T_Hi) (N := 3) hx hb hts in_Hi hown hK hP 0 rfl rfl 2 (by decide) (hts _ k_157) (fun _ h9 => h9) rfl d_Hi_takeBack_26 ?_
    refine lv_iadd hx hb d_Hi_takeBack_29 ?_
    refine lv_bipush (v := (7 : Int32)) hx hb d_Hi_takeBack_30 (by decide) ?_
    refine lv_irem hx hb d_Hi_takeBack_32 (by decide) ?_
    obtain ⟨g_33, hf⟩ := og_e hf
    by_cases e_33_0 : ((v.2.2.2.2.2.2.2.1 + (v.2.2.2.2.2.2.2.2 - (1 : Int32))) - (v.2.2.2.2.2.2.2.1 + (v.2.2.2.2.2.2.2.2 - (1 : Int32))) / (7 : Int32) * (7 : Int32)).toNatClampNeg = 0
    · replace hf := ob_et e_33_0 hf
      refine va_aldq (C := "FloodDiary$State") hx hb hK hP 1 3 rfl rfl g_33 d_Hi_takeBack_33 ?_
      refine W.eq (g2 := F0 m 34 ls [.ref (a 2)]) (by first | (rw [e_33_0]; rfl) | rfl) ?_
      refine lv_astore_n (lv' := [(2, .ref (a 2)), (0, .ref (a 0)), (1, .ref (b 0))]) hx hb d_Hi_takeBack_34 rfl hl (by decide) rfl (fun ls hl => ?_)
      refine lv_aload_n hx hb d_Hi_takeBack_35 rfl (lv_at hl 0 rfl) ?_
      refine lv_ifnull hx hb d_Hi_takeBack_36 ?_
      refine lv_aload_n hx hb d_Hi_takeBack_39 rfl (lv_at hl 2 rfl) ?_
      refine lv_aload_n hx hb d_Hi_takeBack_40 rfl (lv_at hl 0 rfl) ?_
      obtain ⟨q_41, hc_41, hf⟩ := oc_e hf
      refine kcVv (cc := c_Hi_takeBack) (own := "FloodDiary$History") (index := 25) (wc := W_St G b u ++ W_St G (sh a 2) v.1) (wr := O_Hi G a (v.1, v.2.1, v.2.2.1, v.2.2.2.1, v.2.2.2.2.1, v.2.2.2.2.2.1, v.2.2.2.2.2.2.1, v.2.2.2.2.2.2.2.1, (v.2.2.2.2.2.2.2.2 - (1 : Int32))) ++ (W_St G (sh a 22) v.2.1 ++ (W_St G (sh a 42) v.2.2.1 ++ (W_St G (sh a 62) v.2.2.2.1 ++ (W_St G (sh a 82) v.2.2.2.2.1 ++ (W_St G (sh a 102) v.2.2.2.2.2.1 ++ (W_St G (sh a 122) v.2.2.2.2.2.2.1 ++ (([] : va_W))))))))) (wc' := W_St G b q_41 ++ W_St G (sh a 2) v.1) (ws' := W_Hi G a (v.1, v.2.1, v.2.2.1, v.2.2.2.1, v.2.2.2.2.1, v.2.2.2.2.2.1, v.2.2.2.2.2.2.1, v.2.2.2.2.2.2.2.1, (v.2.2.2.2.2.2.2.2 - (1 : Int32))) ++ W_St G b q_41) hx hb hml hown hts hK hN hA hP hD hS (t_St_become l G b (sh a 2) u v.1 q_41 hc_41) m_St_become k_245 ⟨Nat.le_of_ble_eq_true rfl, Nat.le_of_ble_eq_true rfl⟩ (pm_25 (O_Hi G a (v.1, v.2.1, v.2.2.1, v.2.2.2.1, v.2.2.2.2.1, v.2.2.2.2.2.1, v.2.2.2.2.2.2.1, v.2.2.2.2.2.2.2.1, (v.2.2.2.2.2.2.2.2 - (1 : Int32)))) (W_St G (sh a 2) v.1) (W_St G (sh a 22) v.2.1) (W_St G (sh a 42) v.2.2.1) (W_St G (sh a 62) v.2.2.2.1) (W_St G (sh a 82) v.2.2.2.2.1) (W_St G (sh a 102) v.2.2.2.2.2.1) (W_St G (sh a 122) v.2.2.2.2.2.2.1) (W_St G b u)) (pm_25 (O_Hi G a (v.1, v.2.1, v.2.2.1, v.2.2.2.1, v.2.2.2.2.1, v.2.2.2.2.2.1, v.2.2.2.2.2.2.1, v.2.2.2.2.2.2.2.1, (v.2.2.2.2.2.2.2.2 - (1 : Int32)))) (W_St G (sh a 2) v.1) (W_St G (sh a 22) v.2.1) (W_St G (sh a 42) v.2.2.1) (W_St G (sh a 62) v.2.2.2.1) (W_St G (sh a 82) v.2.2.2.2.1) (W_St G (sh a 102) v.2.2.2.2.2.1) (W_St G (sh a 122) v.2.2.2.2.2.2.1) (W_St G b q_41)).symm 6 0 rfl rfl rfl rfl rfl (Nat.le_of_ble_eq_true rfl) hl.1 d_Hi_takeBack_41 ⟨Nat.zero_le _, Nat.zero_le _⟩ (fun H locs hP hD hS => ?_)
      cases hf
      exact kV hx hb hr hlk hP hD hS d_Hi_takeBack_44
    · replace hf := ob_ef e_33_0 hf
      by_cases e_33_1 : ((v.2.2.2.2.2.2.2.1 + (v.2.2.2.2.2.2.2.2 - (1 : Int32))) - (v.2.2.2.2.2.2.2.1 + (v.2.2.2.2.2.2.2.2 - (1 : Int32))) / (7 : Int32) * (7 : Int32)).toNatClampNeg = 1
      · replace hf := ob_et e_33_1 hf
        refine va_aldq (C := "FloodDiary$State") hx hb hK hP 1 3 rfl rfl g_33 d_Hi_takeBack_33 ?_
        refine W.eq (g2 := F0 m 34 ls [.ref (a 22)]) (by first | (rw [e_33_1]; rfl) | rfl) ?_
        refine lv_astore_n (lv' := [(2, .ref (a 22)), (0, .ref (a 0)), (1, .ref (b 0))]) hx hb d_Hi_takeBack_34 rfl hl (by decide) rfl (fun ls hl => ?_)
        refine lv_aload_n hx hb d_Hi_takeBack_35 rfl (lv_at hl 0 rfl) ?_
        refine lv_ifnull hx hb d_Hi_takeBack_36 ?_
        refine lv_aload_n hx hb d_Hi_takeBack_39 rfl (lv_at hl 2 rfl) ?_
        refine lv_aload_n hx hb d_Hi_takeBack_40 rfl (lv_at hl 0 rfl) ?_
        obtain ⟨q_41, hc_41, hf⟩ := oc_e hf
        refine kcVv (cc := c_Hi_takeBack) (own := "FloodDiary$History") (index := 25) (wc := W_St G b u ++ W_St G (sh a 22) v.2.1) (wr := O_Hi G a (v.1, v.2.1, v.2.2.1, v.2.2.2.1, v.2.2.2.2.1, v.2.2.2.2.2.1, v.2.2.2.2.2.2.1, v.2.2.2.2.2.2.2.1, (v.2.2.2.2.2.2.2.2 - (1 : Int32))) ++ (W_St G (sh a 2) v.1 ++ (W_St G (sh a 42) v.2.2.1 ++ (W_St G (sh a 62) v.2.2.2.1 ++ (W_St G (sh a 82) v.2.2.2.2.1 ++ (W_St G (sh a 102) v.2.2.2.2.2.1 ++ (W_St G (sh a 122) v.2.2.2.2.2.2.1 ++ (([] : va_W))))))))) (wc' := W_St G b q_41 ++ W_St G (sh a 22) v.2.1) (ws' := W_Hi G a (v.1, v.2.1, v.2.2.1, v.2.2.2.1, v.2.2.2.2.1, v.2.2.2.2.2.1, v.2.2.2.2.2.2.1, v.2.2.2.2.2.2.2.1, (v.2.2.2.2.2.2.2.2 - (1 : Int32))) ++ W_St G b q_41) hx hb hml hown hts hK hN hA hP hD hS (t_St_become l G b (sh a 22) u v.2.1 q_41 hc_41) m_St_become k_245 ⟨Nat.le_of_ble_eq_true rfl, Nat.le_of_ble_eq_true rfl⟩ (pm_26 (O_Hi G a (v.1, v.2.1, v.2.2.1, v.2.2.2.1, v.2.2.2.2.1, v.2.2.2.2.2.1, v.2.2.2.2.2.2.1, v.2.2.2.2.2.2.2.1, (v.2.2.2.2.2.2.2.2 - (1 : Int32)))) (W_St G (sh a 2) v.1) (W_St G (sh a 22) v.2.1) (W_St G (sh a 42) v.2.2.1) (W_St G (sh a 62) v.2.2.2.1) (W_St G (sh a 82) v.2.2.2.2.1) (W_St G (sh a 102) v.2.2.2.2.2.1) (W_St G (sh a 122) v.2.2.2.2.2.2.1) (W_St G b u)) (pm_26 (O_Hi G a (v.1, v.2.1, v.2.2.1, v.2.2.2.1, v.2.2.2.2.1, v.2.2.2.2.2.1, v.2.2.2.2.2.2.1, v.2.2.2.2.2.2.2.1, (v.2.2.2.2.2.2.2.2 - (1 : Int32)))) (W_St G (sh a 2) v.1) (W_St G (sh a 22) v.2.1) (W_St G (sh a 42) v.2.2.1) (W_St G (sh a 62) v.2.2.2.1) (W_St G (sh a 82) v.2.2.2.2.1) (W_St G (sh a 102) v.2.2.2.2.2.1) (W_St G (sh a 122) v.2.2.2.2.2.2.1) (W_St G b q_41)).symm 6 0 rfl rfl rfl rfl rfl (Nat.le_of_ble_eq_true rfl) hl.1 d_Hi_takeBack_41 ⟨Nat.zero_le _, Nat.zero_le _⟩ (fun H locs hP hD hS => ?_)
        cases hf
        exact kV hx hb hr hlk hP hD hS d_Hi_takeBack_44
      · replace hf := ob_ef e_33_1 hf
        by_cases e_33_2 : ((v.2.2.2.2.2.2.2.1 + (v.2.2.2.2.2.2.2.2 - (1 : Int32))) - (v.2.2.2.2.2.2.2.1 + (v.2.2.2.2.2.2.2.2 - (1 : Int32))) / (7 : Int32) * (7 : Int32)).toNatClampNeg = 2
        · replace hf := ob_et e_33_2 hf
          refine va_aldq (C := "FloodDiary$State") hx hb hK hP 1 3 rfl rfl g_33 d_Hi_takeBack_33 ?_
          refine W.eq (g2 := F0 m 34 ls [.ref (a 42)]) (by first | (rw [e_33_2]; rfl) | rfl) ?_
          refine lv_astore_n (lv' := [(2, .ref (a 42)), (0, .ref (a 0)), (1, .ref (b 0))]) hx hb d_Hi_takeBack_34 rfl hl (by decide) rfl (fun ls hl => ?_)
          refine lv_aload_n hx hb d_Hi_takeBack_35 rfl (lv_at hl 0 rfl) ?_
          refine lv_ifnull hx hb d_Hi_takeBack_36 ?_
          refine lv_aload_n hx hb d_Hi_takeBack_39 rfl (lv_at hl 2 rfl) ?_
          refine lv_aload_n hx hb d_Hi_takeBack_40 rfl (lv_at hl 0 rfl) ?_
          obtain ⟨q_41, hc_41, hf⟩ := oc_e hf
          refine kcVv (cc := c_Hi_takeBack) (own := "FloodDiary$History") (index := 25) (wc := W_St G b u ++ W_St G (sh a 42) v.2.2.1) (wr := O_Hi G a (v.1, v.2.1, v.2.2.1, v.2.2.2.1, v.2.2.2.2.1, v.2.2.2.2.2.1, v.2.2.2.2.2.2.1, v.2.2.2.2.2.2.2.1, (v.2.2.2.2.2.2.2.2 - (1 : Int32))) ++ (W_St G (sh a 2) v.1 ++ (W_St G (sh a 22) v.2.1 ++ (W_St G (sh a 62) v.2.2.2.1 ++ (W_St G (sh a 82) v.2.2.2.2.1 ++ (W_St G (sh a 102) v.2.2.2.2.2.1 ++ (W_St G (sh a 122) v.2.2.2.2.2.2.1 ++ (([] : va_W))))))))) (wc' := W_St G b q_41 ++ W_St G (sh a 42) v.2.2.1) (ws' := W_Hi G a (v.1, v.2.1, v.2.2.1, v.2.2.2.1, v.2.2.2.2.1, v.2.2.2.2.2.1, v.2.2.2.2.2.2.1, v.2.2.2.2.2.2.2.1, (v.2.2.2.2.2.2.2.2 - (1 : Int32))) ++ W_St G b q_41) hx hb hml hown hts hK hN hA hP hD hS (t_St_become l G b (sh a 42) u v.2.2.1 q_41 hc_41) m_St_become k_245 ⟨Nat.le_of_ble_eq_true rfl, Nat.le_of_ble_eq_true rfl⟩ (pm_27 (O_Hi G a (v.1, v.2.1, v.2.2.1, v.2.2.2.1, v.2.2.2.2.1, v.2.2.2.2.2.1, v.2.2.2.2.2.2.1, v.2.2.2.2.2.2.2.1, (v.2.2.2.2.2.2.2.2 - (1 : Int32)))) (W_St G (sh a 2) v.1) (W_St G (sh a 22) v.2.1) (W_St G (sh a 42) v.2.2.1) (W_St G (sh a 62) v.2.2.2.1) (W_St G (sh a 82) v.2.2.2.2.1) (W_St G (sh a 102) v.2.2.2.2.2.1) (W_St G (sh a 122) v.2.2.2.2.2.2.1) (W_St G b u)) (pm_27 (O_Hi G a (v.1, v.2.1, v.2.2.1, v.2.2.2.1, v.2.2.2.2.1, v.2.2.2.2.2.1, v.2.2.2.2.2.2.1, v.2.2.2.2.2.2.2.1, (v.2.2.2.2.2.2.2.2 - (1 : Int32)))) (W_St G (sh a 2) v.1) (W_St G (sh a 22) v.2.1) (W_St G (sh a 42) v.2.2.1) (W_St G (sh a 62) v.2.2.2.1) (W_St G (sh a 82) v.2.2.2.2.1) (W_St G (sh a 102) v.2.2.2.2.2.1) (W_St G (sh a 122) v.2.2.2.2.2.2.1) (W_St G b q_41)).symm 6 0 rfl rfl rfl rfl rfl (Nat.le_of_ble_eq_true rfl) hl.1 d_Hi_takeBack_41 ⟨Nat.zero_le _, Nat.zero_le _⟩ (fun H locs hP hD hS => ?_)
          cases hf
          exact kV hx hb hr hlk hP hD hS d_Hi_takeBack_44
        · replace hf := ob_ef e_33_2 hf
          by_cases e_33_3 : ((v.2.2.2.2.2.2.2.1 + (v.2.2.2.2.2.2.2.2 - (1 : Int32))) - (v.2.2.2.2.2.2.2.1 + (v.2.2.2.2.2.2.2.2 - (1 : Int32))) / (7 : Int32) * (7 : Int32)).toNatClampNeg = 3
          · replace hf := ob_et e_33_3 hf
            refine va_aldq (C := "FloodDiary$State") hx hb hK hP 1 3 rfl rfl g_33 d_Hi_takeBack_33 ?_
            refine W.eq (g2 := F0 m 34 ls [.ref (a 62)]) (by first | (rw [e_33_3]; rfl) | rfl) ?_
            refine lv_astore_n (lv' := [(2, .ref (a 62)), (0, .ref (a 0)), (1, .ref (b 0))]) hx hb d_Hi_takeBack_34 rfl hl (by decide) rfl (fun ls hl => ?_)
            refine lv_aload_n hx hb d_Hi_takeBack_35 rfl (lv_at hl 0 rfl) ?_
            refine lv_ifnull hx hb d_Hi_takeBack_36 ?_
            refine lv_aload_n hx hb d_Hi_takeBack_39 rfl (lv_at hl 2 rfl) ?_
            refine lv_aload_n hx hb d_Hi_takeBack_40 rfl (lv_at hl 0 rfl) ?_
            obtain ⟨q_41, hc_41, hf⟩ := oc_e hf
            refine kcVv (cc := c_Hi_takeBack) (own := "FloodDiary$History") (index := 25) (wc := W_St G b u ++ W_St G (sh a 62) v.2.2.2.1) (wr := O_Hi G a (v.1, v.2.1, v.2.2.1, v.2.2.2.1, v.2.2.2.2.1, v.2.2.2.2.2.1, v.2.2.2.2.2.2.1, v.2.2.2.2.2.2.2.1, (v.2.2.2.2.2.2.2.2 - (1 : Int32))) ++ (W_St G (sh a 2) v.1 ++ (W_St G (sh a 22) v.2.1 ++ (W_St G (sh a 42) v.2.2.1 ++ (W_St G (sh a 82) v.2.2.2.2.1 ++ (W_St G (sh a 102) v.2.2.2.2.2.1 ++ (W_St G (sh a 122) v.2.2.2.2.2.2.1 ++ (([] : va_W))))))))) (wc' := W_St G b q_41 ++ W_St G (sh a 62) v.2.2.2.1) (ws' := W_Hi G a (v.1, v.2.1, v.2.2.1, v.2.2.2.1, v.2.2.2.2.1, v.2.2.2.2.2.1, v.2.2.2.2.2.2.1, v.2.2.2.2.2.2.2.1, (v.2.2.2.2.2.2.2.2 - (1 : Int32))) ++ W_St G b q_41) hx hb hml hown hts hK hN hA hP hD hS (t_St_become l G b (sh a 62) u v.2.2.2.1 q_41 hc_41) m_St_become k_245 ⟨Nat.le_of_ble_eq_true rfl, Nat.le_of_ble_eq_true rfl⟩ (pm_28 (O_Hi G a (v.1, v.2.1, v.2.2.1, v.2.2.2.1, v.2.2.2.2.1, v.2.2.2.2.2.1, v.2.2.2.2.2.2.1, v.2.2.2.2.2.2.2.1, (v.2.2.2.2.2.2.2.2 - (1 : Int32)))) (W_St G (sh a 2) v.1) (W_St G (sh a 22) v.2.1) (W_St G (sh a 42) v.2.2.1) (W_St G (sh a 62) v.2.2.2.1) (W_St G (sh a 82) v.2.2.2.2.1) (W_St G (sh a 102) v.2.2.2.2.2.1) (W_St G (sh a 122) v.2.2.2.2.2.2.1) (W_St G b u)) (pm_28 (O_Hi G a (v.1, v.2.1, v.2.2.1, v.2.2.2.1, v.2.2.2.2.1, v.2.2.2.2.2.1, v.2.2.2.2.2.2.1, v.2.2.2.2.2.2.2.1, (v.2.2.2.2.2.2.2.2 - (1 : Int32)))) (W_St G (sh a 2) v.1) (W_St G (sh a 22) v.2.1) (W_St G (sh a 42) v.2.2.1) (W_St G (sh a 62) v.2.2.2.1) (W_St G (sh a 82) v.2.2.2.2.1) (W_St G (sh a 102) v.2.2.2.2.2.1) (W_St G (sh a 122) v.2.2.2.2.2.2.1) (W_St G b q_41)).symm 6 0 rfl rfl rfl rfl rfl (Nat.le_of_ble_eq_true rfl) hl.1 d_Hi_takeBack_41 ⟨Nat.zero_le _, Nat.zero_le _⟩ (fun H locs hP hD hS => ?_)
            cases hf
            exact kV hx hb hr hlk hP hD hS d_Hi_takeBack_44
          · replace hf := ob_ef e_33_3 hf
            by_cases e_33_4 : ((v.2.2.2.2.2.2.2.1 + (v.2.2.2.2.2.2.2.2 - (1 : Int32))) - (v.2.2.2.2.2.2.2.1 + (v.2.2.2.2.2.2.2.2 - (1 : Int32))) / (7 : Int32) * (7 : Int32)).toNatClampNeg = 4
            · replace hf := ob_et e_33_4 hf
              refine va_aldq (C := "FloodDiary$State") hx hb hK hP 1 3 rfl rfl g_33 d_Hi_takeBack_33 ?_
              refine W.eq (g2 := F0 m 34 ls [.ref (a 82)]) (by first | (rw [e_33_4]; rfl) | rfl) ?_
              refine lv_astore_n (lv' := [(2, .ref (a 82)), (0, .ref (a 0)), (1, .ref (b 0))]) hx hb d_Hi_takeBack_34 rfl hl (by decide) rfl (fun ls hl => ?_)
              refine lv_aload_n hx hb d_Hi_takeBack_35 rfl (lv_at hl 0 rfl) ?_
              refine lv_ifnull hx hb d_Hi_takeBack_36 ?_
              refine lv_aload_n hx hb d_Hi_takeBack_39 rfl (lv_at hl 2 rfl) ?_
              refine lv_aload_n hx hb d_Hi_takeBack_40 rfl (lv_at hl 0 rfl) ?_
              obtain ⟨q_41, hc_41, hf⟩ := oc_e hf
              refine kcVv (cc := c_Hi_takeBack) (own := "FloodDiary$History") (index := 25) (wc := W_St G b u ++ W_St G (sh a 82) v.2.2.2.2.1) (wr := O_Hi G a (v.1, v.2.1, v.2.2.1, v.2.2.2.1, v.2.2.2.2.1, v.2.2.2.2.2.1, v.2.2.2.2.2.2.1, v.2.2.2.2.2.2.2.1, (v.2.2.2.2.2.2.2.2 - (1 : Int32))) ++ (W_St G (sh a 2) v.1 ++ (W_St G (sh a 22) v.2.1 ++ (W_St G (sh a 42) v.2.2.1 ++ (W_St G (sh a 62) v.2.2.2.1 ++ (W_St G (sh a 102) v.2.2.2.2.2.1 ++ (W_St G (sh a 122) v.2.2.2.2.2.2.1 ++ (([] : va_W))))))))) (wc' := W_St G b q_41 ++ W_St G (sh a 82) v.2.2.2.2.1) (ws' := W_Hi G a (v.1, v.2.1, v.2.2.1, v.2.2.2.1, v.2.2.2.2.1, v.2.2.2.2.2.1, v.2.2.2.2.2.2.1, v.2.2.2.2.2.2.2.1, (v.2.2.2.2.2.2.2.2 - (1 : Int32))) ++ W_St G b q_41) hx hb hml hown hts hK hN hA hP hD hS (t_St_become l G b (sh a 82) u v.2.2.2.2.1 q_41 hc_41) m_St_become k_245 ⟨Nat.le_of_ble_eq_true rfl, Nat.le_of_ble_eq_true rfl⟩ (pm_29 (O_Hi G a (v.1, v.2.1, v.2.2.1, v.2.2.2.1, v.2.2.2.2.1, v.2.2.2.2.2.1, v.2.2.2.2.2.2.1, v.2.2.2.2.2.2.2.1, (v.2.2.2.2.2.2.2.2 - (1 : Int32)))) (W_St G (sh a 2) v.1) (W_St G (sh a 22) v.2.1) (W_St G (sh a 42) v.2.2.1) (W_St G (sh a 62) v.2.2.2.1) (W_St G (sh a 82) v.2.2.2.2.1) (W_St G (sh a 102) v.2.2.2.2.2.1) (W_St G (sh a 122) v.2.2.2.2.2.2.1) (W_St G b u)) (pm_29 (O_Hi G a (v.1, v.2.1, v.2.2.1, v.2.2.2.1, v.2.2.2.2.1, v.2.2.2.2.2.1, v.2.2.2.2.2.2.1, v.2.2.2.2.2.2.2.1, (v.2.2.2.2.2.2.2.2 - (1 : Int32)))) (W_St G (sh a 2) v.1) (W_St G (sh a 22) v.2.1) (W_St G (sh a 42) v.2.2.1) (W_St G (sh a 62) v.2.2.2.1) (W_St G (sh a 82) v.2.2.2.2.1) (W_St G (sh a 102) v.2.2.2.2.2.1) (W_St G (sh a 122) v.2.2.2.2.2.2.1) (W_St G b q_41)).symm 6 0 rfl rfl rfl rfl rfl (Nat.le_of_ble_eq_true rfl) hl.1 d_Hi_takeBack_41 ⟨Nat.zero_le _, Nat.zero_le _⟩ (fun H locs hP hD hS => ?_)
              cases hf
              exact kV hx hb hr hlk hP hD hS d_Hi_takeBack_44
            · replace hf := ob_ef e_33_4 hf
              by_cases e_33_5 : ((v.2.2.2.2.2.2.2.1 + (v.2.2.2.2.2.2.2.2 - (1 : Int32))) - (v.2.2.2.2.2.2.2.1 + (v.2.2.2.2.2.2.2.2 - (1 : Int32))) / (7 : Int32) * (7 : Int32)).toNatClampNeg = 5
              · replace hf := ob_et e_33_5 hf
                refine va_aldq (C := "FloodDiary$State") hx hb hK hP 1 3 rfl rfl g_33 d_Hi_takeBack_33 ?_
                refine W.eq (g2 := F0 m 34 ls [.ref (a 102)]) (by first | (rw [e_33_5]; rfl) | rfl) ?_
                refine lv_astore_n (lv' := [(2, .ref (a 102)), (0, .ref (a 0)), (1, .ref (b 0))]) hx hb d_Hi_takeBack_34 rfl hl (by decide) rfl (fun ls hl => ?_)
                refine lv_aload_n hx hb d_Hi_takeBack_35 rfl (lv_at hl 0 rfl) ?_
                refine lv_ifnull hx hb d_Hi_takeBack_36 ?_
                refine lv_aload_n hx hb d_Hi_takeBack_39 rfl (lv_at hl 2 rfl) ?_
                refine lv_aload_n hx hb d_Hi_takeBack_40 rfl (lv_at hl 0 rfl) ?_
                obtain ⟨q_41, hc_41, hf⟩ := oc_e hf
                refine kcVv (cc := c_Hi_takeBack) (own := "FloodDiary$History") (index := 25) (wc := W_St G b u ++ W_St G (sh a 102) v.2.2.2.2.2.1) (wr := O_Hi G a (v.1, v.2.1, v.2.2.1, v.2.2.2.1, v.2.2.2.2.1, v.2.2.2.2.2.1, v.2.2.2.2.2.2.1, v.2.2.2.2.2.2.2.1, (v.2.2.2.2.2.2.2.2 - (1 : Int32))) ++ (W_St G (sh a 2) v.1 ++ (W_St G (sh a 22) v.2.1 ++ (W_St G (sh a 42) v.2.2.1 ++ (W_St G (sh a 62) v.2.2.2.1 ++ (W_St G (sh a 82) v.2.2.2.2.1 ++ (W_St G (sh a 122) v.2.2.2.2.2.2.1 ++ (([] : va_W))))))))) (wc' := W_St G b q_41 ++ W_St G (sh a 102) v.2.2.2.2.2.1) (ws' := W_Hi G a (v.1, v.2.1, v.2.2.1, v.2.2.2.1, v.2.2.2.2.1, v.2.2.2.2.2.1, v.2.2.2.2.2.2.1, v.2.2.2.2.2.2.2.1, (v.2.2.2.2.2.2.2.2 - (1 : Int32))) ++ W_St G b q_41) hx hb hml hown hts hK hN hA hP hD hS (t_St_become l G b (sh a 102) u v.2.2.2.2.2.1 q_41 hc_41) m_St_become k_245 ⟨Nat.le_of_ble_eq_true rfl, Nat.le_of_ble_eq_true rfl⟩ (pm_30 (O_Hi G a (v.1, v.2.1, v.2.2.1, v.2.2.2.1, v.2.2.2.2.1, v.2.2.2.2.2.1, v.2.2.2.2.2.2.1, v.2.2.2.2.2.2.2.1, (v.2.2.2.2.2.2.2.2 - (1 : Int32)))) (W_St G (sh a 2) v.1) (W_St G (sh a 22) v.2.1) (W_St G (sh a 42) v.2.2.1) (W_St G (sh a 62) v.2.2.2.1) (W_St G (sh a 82) v.2.2.2.2.1) (W_St G (sh a 102) v.2.2.2.2.2.1) (W_St G (sh a 122) v.2.2.2.2.2.2.1) (W_St G b u)) (pm_30 (O_Hi G a (v.1, v.2.1, v.2.2.1, v.2.2.2.1, v.2.2.2.2.1, v.2.2.2.2.2.1, v.2.2.2.2.2.2.1, v.2.2.2.2.2.2.2.1, (v.2.2.2.2.2.2.2.2 - (1 : Int32)))) (W_St G (sh a 2) v.1) (W_St G (sh a 22) v.2.1) (W_St G (sh a 42) v.2.2.1) (W_St G (sh a 62) v.2.2.2.1) (W_St G (sh a 82) v.2.2.2.2.1) (W_St G (sh a 102) v.2.2.2.2.2.1) (W_St G (sh a 122) v.2.2.2.2.2.2.1) (W_St G b q_41)).symm 6 0 rfl rfl rfl rfl rfl (Nat.le_of_ble_eq_true rfl) hl.1 d_Hi_takeBack_41 ⟨Nat.zero_le _, Nat.zero_le _⟩ (fun H locs hP hD hS => ?_)
                cases hf
                exact kV hx hb hr hlk hP hD hS d_Hi_takeBack_44
              · replace hf := ob_ef e_33_5 hf
                by_cases e_33_6 : ((v.2.2.2.2.2.2.2.1 + (v.2.2.2.2.2.2.2.2 - (1 : Int32))) - (v.2.2.2.2.2.2.2.1 + (v.2.2.2.2.2.2.2.2 - (1 : Int32))) / (7 : Int32) * (7 : Int32)).toNatClampNeg = 6
                · replace hf := ob_et e_33_6 hf
                  refine va_aldq (C := "FloodDiary$State") hx hb hK hP 1 3 rfl rfl g_33 d_Hi_takeBack_33 ?_
                  refine W.eq (g2 := F0 m 34 ls [.ref (a 122)]) (by first | (rw [e_33_6]; rfl) | rfl) ?_
                  refine lv_astore_n (lv' := [(2, .ref (a 122)), (0, .ref (a 0)), (1, .ref (b 0))]) hx hb d_Hi_takeBack_34 rfl hl (by decide) rfl (fun ls hl => ?_)
                  refine lv_aload_n hx hb d_Hi_takeBack_35 rfl (lv_at hl 0 rfl) ?_
                  refine lv_ifnull hx hb d_Hi_takeBack_36 ?_
                  refine lv_aload_n hx hb d_Hi_takeBack_39 rfl (lv_at hl 2 rfl) ?_
                  refine lv_aload_n hx hb d_Hi_takeBack_40 rfl (lv_at hl 0 rfl) ?_
                  obtain ⟨q_41, hc_41, hf⟩ := oc_e hf
                  refine kcVv (cc := c_Hi_takeBack) (own := "FloodDiary$History") (index := 25) (wc := W_St G b u ++ W_St G (sh a 122) v.2.2.2.2.2.2.1) (wr := O_Hi G a (v.1, v.2.1, v.2.2.1, v.2.2.2.1, v.2.2.2.2.1, v.2.2.2.2.2.1, v.2.2.2.2.2.2.1, v.2.2.2.2.2.2.2.1, (v.2.2.2.2.2.2.2.2 - (1 : Int32))) ++ (W_St G (sh a 2) v.1 ++ (W_St G (sh a 22) v.2.1 ++ (W_St G (sh a 42) v.2.2.1 ++ (W_St G (sh a 62) v.2.2.2.1 ++ (W_St G (sh a 82) v.2.2.2.2.1 ++ (W_St G (sh a 102) v.2.2.2.2.2.1 ++ (([] : va_W))))))))) (wc' := W_St G b q_41 ++ W_St G (sh a 122) v.2.2.2.2.2.2.1) (ws' := W_Hi G a (v.1, v.2.1, v.2.2.1, v.2.2.2.1, v.2.2.2.2.1, v.2.2.2.2.2.1, v.2.2.2.2.2.2.1, v.2.2.2.2.2.2.2.1, (v.2.2.2.2.2.2.2.2 - (1 : Int32))) ++ W_St G b q_41) hx hb hml hown hts hK hN hA hP hD hS (t_St_become l G b (sh a 122) u v.2.2.2.2.2.2.1 q_41 hc_41) m_St_become k_245 ⟨Nat.le_of_ble_eq_true rfl, Nat.le_of_ble_eq_true rfl⟩ (pm_31 (O_Hi G a (v.1, v.2.1, v.2.2.1, v.2.2.2.1, v.2.2.2.2.1, v.2.2.2.2.2.1, v.2.2.2.2.2.2.1, v.2.2.2.2.2.2.2.1, (v.2.2.2.2.2.2.2.2 - (1 : Int32)))) (W_St G (sh a 2) v.1) (W_St G (sh a 22) v.2.1) (W_St G (sh a 42) v.2.2.1) (W_St G (sh a 62) v.2.2.2.1) (W_St G (sh a 82) v.2.2.2.2.1) (W_St G (sh a 102) v.2.2.2.2.2.1) (W_St G (sh a 122) v.2.2.2.2.2.2.1) (W_St G b u)) (pm_31 (O_Hi G a (v.1, v.2.1, v.2.2.1, v.2.2.2.1, v.2.2.2.2.1, v.2.2.2.2.2.1, v.2.2.2.2.2.2.1, v.2.2.2.2.2.2.2.1, (v.2.2.2.2.2.2.2.2 - (1 : Int32)))) (W_St G (sh a 2) v.1) (W_St G (sh a 22) v.2.1) (W_St G (sh a 42) v.2.2.1) (W_St G (sh a 62) v.2.2.2.1) (W_St G (sh a 82) v.2.2.2.2.1) (W_St G (sh a 102) v.2.2.2.2.2.1) (W_St G (sh a 122) v.2.2.2.2.2.2.1) (W_St G b q_41)).symm 6 0 rfl rfl rfl rfl rfl (Nat.le_of_ble_eq_true rfl) hl.1 d_Hi_takeBack_41 ⟨Nat.zero_le _, Nat.zero_le _⟩ (fun H locs hP hD hS => ?_)
                  cases hf
                  exact kV hx hb hr hlk hP hD hS d_Hi_takeBack_44
                · replace hf := ob_ef e_33_6 hf
                  cases hf
