theorem pm_11 (x0 x1 x2 x3 x4 x5 x6 : va_W) : List.Perm (x0 ++ (x1 ++ (x2 ++ (x3 ++ (x4 ++ (x5 ++ (x6 ++ (([] : va_W))))))))) ((x1 ++ x3) ++ (x0 ++ (x2 ++ (x4 ++ (x5 ++ (x6 ++ (([] : va_W)))))))) := prm (fun d z => by first | (simp only [List.count_append, List.count_nil]; omega) | simp only [List.count_append, List.count_nil])
set_option maxHeartbeats 4000000 in
set_option maxRecDepth 100000 in
theorem t_Md_record (l : Launch) (G : GG) (a : Nat → Nat) (v : V_Md) (q : V_Md) (hf : f_Md_record v = some q) : MV l G y_Md_record c_Md_record 2 (rmk 1 24) (W_Md G a v) [.ref (a 0)] (W_Md G a q) := by
  refine ofV "FloodDiaryModel" (by decide +kernel) rfl (Nat.le_of_ble_eq_true rfl) (fun p e s m args below meth c A ls hx hb hr hml hown hts hlk hK hN hA hP hD hS hl => ?_)
  have hl : lv_has ls 2 [(0, .ref (a 0))] := hl
  have J_50 : ∀ (v : V_Md) (H : Heap) (locs : List Loc) (ls : Array Slot), va_P G.1 vwCl (W_Md G a v) H → va_D A (W_Md G a v) → va_S A s.heap H locs → lv_has ls 2 [(0, .ref (a 0))] → f_Md_record_50 v = some q → W p l e (rmk 1 24) s m args below meth c H locs 0 0 (MQ below (qV G A (W_Md G a q)) args s 0 0 A) (F0 m 50 ls []) := by
    intro v H locs ls hP hD hS hl hf
    unfold f_Md_record_50 at hf
    refine lv_aload_n hx hb d_Md_record_50 rfl (lv_at hl 0 rfl) ?_
    refine va_get (D := G.1) (ci := 9) (v := .ref (a 1)) (C := R_Md) (T := T_Md) (N := 9) hx hb hts in_Md hown hK hP 0 rfl rfl 0 (by decide) (hts _ k_753) (fun _ h9 => h9) rfl d_Md_record_51 ?_
    refine lv_iconst (v := (0 : Int32)) hx hb d_Md_record_54 (by decide) ?_
    refine lv_aload_n hx hb d_Md_record_55 rfl (lv_at hl 0 rfl) ?_
    refine va_get (D := G.1) (ci := 9) (v := .ref (a 3)) (C := R_Md) (T := T_Md) (N := 9) hx hb hts in_Md hown hK hP 0 rfl rfl 2 (by decide) (hts _ k_755) (fun _ h9 => h9) rfl d_Md_record_56 ?_
    refine lv_sipush (v := (2400 : Int32)) hx hb d_Md_record_59 (by decide) ?_
    refine lv_aload_n hx hb d_Md_record_62 rfl (lv_at hl 0 rfl) ?_
    refine va_get (D := G.1) (ci := 9) (v := .int v.2.2.2.1) (C := R_Md) (T := T_Md) (N := 9) hx hb hts in_Md hown hK hP 0 rfl rfl 3 (by decide) (hts _ k_756) (fun _ h9 => h9) rfl d_Md_record_63 ?_
    refine lv_imul hx hb d_Md_record_66 ?_
    obtain ⟨q_67, hc_67, hf⟩ := oc_e hf
    refine kcSv (cc := c_Md_record) (own := "FloodDiaryModel") (index := 86) (wc := W_Row G 2400 (a 1) v.1 ++ W_Row G 14400 (a 3) v.2.2.1) (wr := O_Md G a v ++ (W_Row G 2400 (a 2) v.2.1 ++ (W_Row G 4800 (a 4) v.2.2.2.2.1 ++ (W_RowZ G 2 (a 5) v.2.2.2.2.2.1 ++ (W_Row G 80 (a 6) v.2.2.2.2.2.2.1 ++ (([] : va_W))))))) (wc' := W_Row G 2400 (a 1) v.1 ++ W_Row G 14400 (a 3) q_67) (ws' := W_Md G a (v.1, v.2.1, q_67, v.2.2.2.1, v.2.2.2.2.1, v.2.2.2.2.2.1, v.2.2.2.2.2.2.1, v.2.2.2.2.2.2.2.1, v.2.2.2.2.2.2.2.2)) hx hb hml hown hts hK hN hA hP hD hS (t_Md_copyState l G (a 1) (a 3) 2400 14400 (0 : Int32) ((2400 : Int32) * v.2.2.2.1) v.1 v.2.2.1 q_67 hc_67) m_Md_copyState k_793 ⟨Nat.le_of_ble_eq_true rfl, Nat.le_of_ble_eq_true rfl⟩ (pm_11 (O_Md G a v) (W_Row G 2400 (a 1) v.1) (W_Row G 2400 (a 2) v.2.1) (W_Row G 14400 (a 3) v.2.2.1) (W_Row G 4800 (a 4) v.2.2.2.2.1) (W_RowZ G 2 (a 5) v.2.2.2.2.2.1) (W_Row G 80 (a 6) v.2.2.2.2.2.2.1)) (pm_11 (O_Md G a (v.1, v.2.1, q_67, v.2.2.2.1, v.2.2.2.2.1, v.2.2.2.2.2.1, v.2.2.2.2.2.2.1, v.2.2.2.2.2.2.2.1, v.2.2.2.2.2.2.2.2)) (W_Row G 2400 (a 1) v.1) (W_Row G 2400 (a 2) v.2.1) (W_Row G 14400 (a 3) q_67) (W_Row G 4800 (a 4) v.2.2.2.2.1) (W_RowZ G 2 (a 5) v.2.2.2.2.2.1) (W_Row G 80 (a 6) v.2.2.2.2.2.2.1)).symm rfl rfl (Nat.le_of_ble_eq_true rfl) hl.1 d_Md_record_67 ⟨Nat.zero_le _, Nat.zero_le _⟩ (fun H locs hP hD hS => ?_)
    refine lv_aload_n hx hb d_Md_record_70 rfl (lv_at hl 0 rfl) ?_
    refine lv_dup hx hb d_Md_record_71 rfl ?_
    refine va_get (D := G.1) (ci := 9) (v := .int v.2.2.2.1) (C := R_Md) (T := T_Md) (N := 9) hx hb hts in_Md hown hK hP 0 rfl rfl 3 (by decide) (hts _ k_756) (fun _ h9 => h9) rfl d_Md_record_72 ?_
    refine lv_iconst (v := (1 : Int32)) hx hb d_Md_record_75 (by decide) ?_
    refine lv_iadd hx hb d_Md_record_76 ?_
    refine va_put (D := G.1) (ci := 9) (v := .int (v.2.2.2.1 + (1 : Int32))) (ty := .int) (C := R_Md) (T := T_Md) (N := 9) hx hb hts in_Md ty_Md ty_Md_ok nm_Md hown hK hP hD hS 0 rfl rfl 3 (by decide) (hts _ k_756) (fun _ h9 => h9) rfl (ty_Md_ok 3 (by decide)) rfl rfl (Nat.le_of_ble_eq_true rfl) d_Md_record_77 (fun H locs hP hD hS => ?_)
    have hP : va_P G.1 vwCl (W_Md G a (v.1, v.2.1, q_67, (v.2.2.2.1 + (1 : Int32)), v.2.2.2.2.1, v.2.2.2.2.2.1, v.2.2.2.2.2.2.1, v.2.2.2.2.2.2.2.1, v.2.2.2.2.2.2.2.2)) H := hP
    have hD : va_D A (W_Md G a (v.1, v.2.1, q_67, (v.2.2.2.1 + (1 : Int32)), v.2.2.2.2.1, v.2.2.2.2.2.1, v.2.2.2.2.2.2.1, v.2.2.2.2.2.2.2.1, v.2.2.2.2.2.2.2.2)) := hD
    cases hf
    exact kV hx hb hr hlk hP hD hS d_Md_record_80
  have J_11 : ∀ (n_11 : Nat) (l1 : Int32) (v : V_Md) (H : Heap) (locs : List Loc) (ls : Array Slot), va_P G.1 vwCl (W_Md G a v) H → va_D A (W_Md G a v) → va_S A s.heap H locs → lv_has ls 2 [(0, .ref (a 0)), (1, .int l1)] → f_Md_record_11 n_11 l1 v = some q → W p l e (rmk 1 24) s m args below meth c H locs 0 0 (MQ below (qV G A (W_Md G a q)) args s 0 0 A) (F0 m 11 ls []) := by
    intro n_11
    induction n_11 with
    | zero => intro l1 v H locs ls hP hD hS hl hf; exact absurd hf (by unfold f_Md_record_11; exact fun z => by cases z)
    | succ n_11 ih_11 =>
      intro l1 v H locs ls hP hD hS hl hf
      rw [f_Md_record_11] at hf
      refine lv_iload_n hx hb d_Md_record_11 rfl (lv_at hl 1 rfl) ?_
      refine lv_sipush (v := (12000 : Int32)) hx hb d_Md_record_12 (by decide) ?_
      refine lv_icmp_ge (tgt := 40) hx hb d_Md_record_15 (by decide) (fun c_15 => ?_) (fun c_15 => ?_)
      · replace hf := ob_et c_15 hf
        refine lv_aload_n hx hb d_Md_record_40 rfl (lv_at hl 0 rfl) ?_
        refine lv_dup hx hb d_Md_record_41 rfl ?_
        refine va_get (D := G.1) (ci := 9) (v := .int v.2.2.2.1) (C := R_Md) (T := T_Md) (N := 9) hx hb hts in_Md hown hK hP 0 rfl rfl 3 (by decide) (hts _ k_756) (fun _ h9 => h9) rfl d_Md_record_42 ?_
        refine lv_iconst (v := (1 : Int32)) hx hb d_Md_record_45 (by decide) ?_
        refine lv_isub hx hb d_Md_record_46 ?_
        refine va_put (D := G.1) (ci := 9) (v := .int (v.2.2.2.1 - (1 : Int32))) (ty := .int) (C := R_Md) (T := T_Md) (N := 9) hx hb hts in_Md ty_Md ty_Md_ok nm_Md hown hK hP hD hS 0 rfl rfl 3 (by decide) (hts _ k_756) (fun _ h9 => h9) rfl (ty_Md_ok 3 (by decide)) rfl rfl (Nat.le_of_ble_eq_true rfl) d_Md_record_47 (fun H locs hP hD hS => ?_)
        have hP : va_P G.1 vwCl (W_Md G a (v.1, v.2.1, v.2.2.1, (v.2.2.2.1 - (1 : Int32)), v.2.2.2.2.1, v.2.2.2.2.2.1, v.2.2.2.2.2.2.1, v.2.2.2.2.2.2.2.1, v.2.2.2.2.2.2.2.2)) H := hP
        have hD : va_D A (W_Md G a (v.1, v.2.1, v.2.2.1, (v.2.2.2.1 - (1 : Int32)), v.2.2.2.2.1, v.2.2.2.2.2.1, v.2.2.2.2.2.2.1, v.2.2.2.2.2.2.2.1, v.2.2.2.2.2.2.2.2)) := hD
        exact J_50 (v.1, v.2.1, v.2.2.1, (v.2.2.2.1 - (1 : Int32)), v.2.2.2.2.1, v.2.2.2.2.2.1, v.2.2.2.2.2.2.1, v.2.2.2.2.2.2.2.1, v.2.2.2.2.2.2.2.2) _ _ ls hP hD hS (lv_sub hl [0] rfl) hf
      · replace hf := ob_ef c_15 hf
        refine lv_aload_n hx hb d_Md_record_18 rfl (lv_at hl 0 rfl) ?_
        refine va_get (D := G.1) (ci := 9) (v := .ref (a 3)) (C := R_Md) (T := T_Md) (N := 9) hx hb hts in_Md hown hK hP 0 rfl rfl 2 (by decide) (hts _ k_755) (fun _ h9 => h9) rfl d_Md_record_19 ?_
        refine lv_iload_n hx hb d_Md_record_22 rfl (lv_at hl 1 rfl) ?_
        refine lv_aload_n hx hb d_Md_record_23 rfl (lv_at hl 0 rfl) ?_
        refine va_get (D := G.1) (ci := 9) (v := .ref (a 3)) (C := R_Md) (T := T_Md) (N := 9) hx hb hts in_Md hown hK hP 0 rfl rfl 2 (by decide) (hts _ k_755) (fun _ h9 => h9) rfl d_Md_record_24 ?_
        refine lv_iload_n hx hb d_Md_record_27 rfl (lv_at hl 1 rfl) ?_
        refine lv_sipush (v := (2400 : Int32)) hx hb d_Md_record_28 (by decide) ?_
        refine lv_iadd hx hb d_Md_record_31 ?_
        obtain ⟨g_32, hf⟩ := og_e hf
        refine va_iald hx hb hK hP 3 0 rfl rfl g_32 d_Md_record_32 ?_
        obtain ⟨g_33, hf⟩ := og_e hf
        obtain ⟨r_33, er_33, hf⟩ := nx_e hf
        refine va_iast hx hb hK hP hD hS 3 0 rfl rfl g_33 d_Md_record_33 (fun H locs hP hD hS => ?_)
        rw [← er_33] at hP hD
        have hP : va_P G.1 vwCl (W_Md G a (v.1, v.2.1, r_33, v.2.2.2.1, v.2.2.2.2.1, v.2.2.2.2.2.1, v.2.2.2.2.2.2.1, v.2.2.2.2.2.2.2.1, v.2.2.2.2.2.2.2.2)) H := hP
        have hD : va_D A (W_Md G a (v.1, v.2.1, r_33, v.2.2.2.1, v.2.2.2.2.1, v.2.2.2.2.2.1, v.2.2.2.2.2.2.1, v.2.2.2.2.2.2.2.1, v.2.2.2.2.2.2.2.2)) := hD
        refine lv_iinc (v := (l1 + (1 : Int32))) (lv' := [(1, .int (l1 + (1 : Int32))), (0, .ref (a 0))]) hx hb d_Md_record_34 hl (k := 1) rfl rfl (by decide) rfl (fun ls hl => ?_)
        refine lv_goto (tgt := 11) hx hb d_Md_record_37 (by decide) ?_
        exact ih_11 (l1 + (1 : Int32)) (v.1, v.2.1, r_33, v.2.2.2.1, v.2.2.2.2.1, v.2.2.2.2.2.1, v.2.2.2.2.2.2.1, v.2.2.2.2.2.2.2.1, v.2.2.2.2.2.2.2.2) _ _ ls hP hD hS (lv_sub hl [1, 0] rfl) hf
  unfold f_Md_record at hf
  refine lv_aload_n hx hb d_Md_record_0 rfl (lv_at hl 0 rfl) ?_
  refine va_get (D := G.1) (ci := 9) (v := .int v.2.2.2.1) (C := R_Md) (T := T_Md) (N := 9) hx hb hts in_Md hown hK hP 0 rfl rfl 3 (by decide) (hts _ k_756) (fun _ h9 => h9) rfl d_Md_record_1 ?_
  refine lv_bipush (v := (6 : Int32)) hx hb d_Md_record_4 (by decide) ?_
  refine lv_icmp_ne (tgt := 50) hx hb d_Md_record_6 (by decide) (fun c_6 => ?_) (fun c_6 => ?_)
  · replace hf := ob_ef c_6 hf
    exact J_50 v _ _ ls hP hD hS (lv_sub hl [0] rfl) hf
  · replace hf := ob_et c_6 hf
    refine lv_iconst (v := (0 : Int32)) hx hb d_Md_record_9 (by decide) ?_
    refine lv_istore_n (lv' := [(1, .int (0 : Int32)), (0, .ref (a 0))]) hx hb d_Md_record_10 rfl hl (by decide) rfl (fun ls hl => ?_)
    exact J_11 FU (0 : Int32) v _ _ ls hP hD hS (lv_sub hl [1, 0] rfl) hf
theorem pm_12 (x0 x1 x2 x3 x4 x5 x6 : va_W) : List.Perm (x0 ++ (x1 ++ (x2 ++ (x3 ++ (x4 ++ (x5 ++ (x6 ++ (([] : va_W))))))))) ((x1) ++ (x0 ++ (x2 ++ (x3 ++ (x4 ++ (x5 ++ (x6 ++ (([] : va_W))))))))) := prm (fun d z => by first | (simp only [List.count_append, List.count_nil]; omega) | simp only [List.count_append, List.count_nil])
set_option maxHeartbeats 4000000 in
set_option maxRecDepth 100000 in
theorem t_Md_begin (l : Launch) (G : GG) (a : Nat → Nat) (v : V_Md) (q : Int32 × V_Md) (hf : f_Md_begin v = some q) : MI l G y_Md_begin c_Md_begin 2 (some .int) (rmk 4 91) (W_Md G a v) [.ref (a 0)] (W_Md G a q.2) (q.1) := by
  refine ofI "FloodDiaryModel" (by decide +kernel) rfl (Nat.le_of_ble_eq_true rfl) (fun p e s m args below meth c A ls hx hb hr hml hown hts hlk hK hN hA hP hD hS hl => ?_)
  have hl : lv_has ls 2 [(0, .ref (a 0))] := hl
  unfold f_Md_begin at hf
  refine lv_aload_n hx hb d_Md_begin_0 rfl (lv_at hl 0 rfl) ?_
  refine va_get (D := G.1) (ci := 9) (v := .ref (a 1)) (C := R_Md) (T := T_Md) (N := 9) hx hb hts in_Md hown hK hP 0 rfl rfl 0 (by decide) (hts _ k_753) (fun _ h9 => h9) rfl d_Md_begin_1 ?_
  obtain ⟨q_4, hc_4, hf⟩ := oc_e hf
  refine kcS (cc := c_Md_begin) (own := "FloodDiaryModel") (index := 90) (wc := W_Row G 2400 (a 1) v.1) (wr := O_Md G a v ++ (W_Row G 2400 (a 2) v.2.1 ++ (W_Row G 14400 (a 3) v.2.2.1 ++ (W_Row G 4800 (a 4) v.2.2.2.2.1 ++ (W_RowZ G 2 (a 5) v.2.2.2.2.2.1 ++ (W_Row G 80 (a 6) v.2.2.2.2.2.2.1 ++ (([] : va_W)))))))) (wc' := W_Row G 2400 (a 1) v.1) (ws' := W_Md G a v) hx hb hml hown hts hK hN hA hP hD hS (t_Md_whyNotBegin l G (a 1) v.1 q_4 hc_4) m_Md_whyNotBegin k_786 ⟨Nat.le_of_ble_eq_true rfl, Nat.le_of_ble_eq_true rfl⟩ (pm_12 (O_Md G a v) (W_Row G 2400 (a 1) v.1) (W_Row G 2400 (a 2) v.2.1) (W_Row G 14400 (a 3) v.2.2.1) (W_Row G 4800 (a 4) v.2.2.2.2.1) (W_RowZ G 2 (a 5) v.2.2.2.2.2.1) (W_Row G 80 (a 6) v.2.2.2.2.2.2.1)) (pm_12 (O_Md G a v) (W_Row G 2400 (a 1) v.1) (W_Row G 2400 (a 2) v.2.1) (W_Row G 14400 (a 3) v.2.2.1) (W_Row G 4800 (a 4) v.2.2.2.2.1) (W_RowZ G 2 (a 5) v.2.2.2.2.2.1) (W_Row G 80 (a 6) v.2.2.2.2.2.2.1)).symm rfl rfl (Nat.le_of_ble_eq_true rfl) hl.1 d_Md_begin_4 ⟨Nat.zero_le _, Nat.zero_le _⟩ (fun H locs hP hD hS => ?_)
  refine lv_istore_n (lv' := [(1, .int q_4), (0, .ref (a 0))]) hx hb d_Md_begin_7 rfl hl (by decide) rfl (fun ls hl => ?_)
  refine lv_iload_n hx hb d_Md_begin_8 rfl (lv_at hl 0 rfl) ?_
  refine lv_if_eq (tgt := 14) hx hb d_Md_begin_9 (by decide) (fun c_9 => ?_) (fun c_9 => ?_)
  · replace hf := ob_et c_9 hf
    refine lv_aload_n hx hb d_Md_begin_14 rfl (lv_at hl 1 rfl) ?_
    obtain ⟨q_15, hc_15, hf⟩ := oc_e hf
    refine kcVv (cc := c_Md_begin) (own := "FloodDiaryModel") (index := 93) (wc := W_Md G a v) (wr := ([] : va_W)) (wc' := W_Md G a q_15) (ws' := W_Md G a q_15) hx hb hml hown hts hK hN hA hP hD hS (t_Md_record l G a v q_15 hc_15) m_Md_record k_789 ⟨Nat.le_of_ble_eq_true rfl, Nat.le_of_ble_eq_true rfl⟩ (pm_0 (W_Md G a v)) (pm_0 (W_Md G a q_15)).symm 9 0 rfl rfl rfl rfl rfl (Nat.le_of_ble_eq_true rfl) hl.1 d_Md_begin_15 ⟨Nat.zero_le _, Nat.zero_le _⟩ (fun H locs hP hD hS => ?_)
    refine lv_aload_n hx hb d_Md_begin_18 rfl (lv_at hl 1 rfl) ?_
    refine va_get (D := G.1) (ci := 9) (v := .ref (a 1)) (C := R_Md) (T := T_Md) (N := 9) hx hb hts in_Md hown hK hP 0 rfl rfl 0 (by decide) (hts _ k_753) (fun _ h9 => h9) rfl d_Md_begin_19 ?_
    obtain ⟨q_22, hc_22, hf⟩ := oc_e hf
    refine kcS (cc := c_Md_begin) (own := "FloodDiaryModel") (index := 96) (wc := W_Row G 2400 (a 1) q_15.1) (wr := O_Md G a q_15 ++ (W_Row G 2400 (a 2) q_15.2.1 ++ (W_Row G 14400 (a 3) q_15.2.2.1 ++ (W_Row G 4800 (a 4) q_15.2.2.2.2.1 ++ (W_RowZ G 2 (a 5) q_15.2.2.2.2.2.1 ++ (W_Row G 80 (a 6) q_15.2.2.2.2.2.2.1 ++ (([] : va_W)))))))) (wc' := W_Row G 2400 (a 1) q_22.2) (ws' := W_Md G a (q_22.2, q_15.2.1, q_15.2.2.1, q_15.2.2.2.1, q_15.2.2.2.2.1, q_15.2.2.2.2.2.1, q_15.2.2.2.2.2.2.1, q_15.2.2.2.2.2.2.2.1, q_15.2.2.2.2.2.2.2.2)) hx hb hml hown hts hK hN hA hP hD hS (t_Md_beginOn l G (a 1) q_15.1 q_22 hc_22) m_Md_beginOn k_796 ⟨Nat.le_of_ble_eq_true rfl, Nat.le_of_ble_eq_true rfl⟩ (pm_12 (O_Md G a q_15) (W_Row G 2400 (a 1) q_15.1) (W_Row G 2400 (a 2) q_15.2.1) (W_Row G 14400 (a 3) q_15.2.2.1) (W_Row G 4800 (a 4) q_15.2.2.2.2.1) (W_RowZ G 2 (a 5) q_15.2.2.2.2.2.1) (W_Row G 80 (a 6) q_15.2.2.2.2.2.2.1)) (pm_12 (O_Md G a (q_22.2, q_15.2.1, q_15.2.2.1, q_15.2.2.2.1, q_15.2.2.2.2.1, q_15.2.2.2.2.2.1, q_15.2.2.2.2.2.2.1, q_15.2.2.2.2.2.2.2.1, q_15.2.2.2.2.2.2.2.2)) (W_Row G 2400 (a 1) q_22.2) (W_Row G 2400 (a 2) q_15.2.1) (W_Row G 14400 (a 3) q_15.2.2.1) (W_Row G 4800 (a 4) q_15.2.2.2.2.1) (W_RowZ G 2 (a 5) q_15.2.2.2.2.2.1) (W_Row G 80 (a 6) q_15.2.2.2.2.2.2.1)).symm rfl rfl (Nat.le_of_ble_eq_true rfl) hl.1 d_Md_begin_22 ⟨Nat.zero_le _, Nat.zero_le _⟩ (fun H locs hP hD hS => ?_)
    cases hf
    exact kI hx hb hr hlk hP hD hS d_Md_begin_25
  · replace hf := ob_ef c_9 hf
    refine lv_iload_n hx hb d_Md_begin_12 rfl (lv_at hl 0 rfl) ?_
    cases hf
    exact kI hx hb hr hlk hP hD hS d_Md_begin_13
set_option maxHeartbeats 4000000 in
set_option maxRecDepth 100000 in
theorem t_Md_write (l : Launch) (G : GG) (a : Nat → Nat) (l1 : Int32) (l2 : Int32) (l3 : Int32) (v : V_Md) (q : Int32 × V_Md) (hf : f_Md_write l1 l2 l3 v = some q) : MI l G y_Md_write c_Md_write 5 (some .int) (rmk 4 95) (W_Md G a v) [.ref (a 0), .int l1, .int l2, .int l3] (W_Md G a q.2) (q.1) := by
  refine ofI "FloodDiaryModel" (by decide +kernel) rfl (Nat.le_of_ble_eq_true rfl) (fun p e s m args below meth c A ls hx hb hr hml hown hts hlk hK hN hA hP hD hS hl => ?_)
  have hl : lv_has ls 5 [(0, .ref (a 0)), (1, .int l1), (2, .int l2), (3, .int l3)] := hl
  unfold f_Md_write at hf
  refine lv_aload_n hx hb d_Md_write_0 rfl (lv_at hl 0 rfl) ?_
  refine va_get (D := G.1) (ci := 9) (v := .ref (a 1)) (C := R_Md) (T := T_Md) (N := 9) hx hb hts in_Md hown hK hP 0 rfl rfl 0 (by decide) (hts _ k_753) (fun _ h9 => h9) rfl d_Md_write_1 ?_
  refine lv_iload_n hx hb d_Md_write_4 rfl (lv_at hl 1 rfl) ?_
  refine lv_iload_n hx hb d_Md_write_5 rfl (lv_at hl 2 rfl) ?_
  refine lv_iload_n hx hb d_Md_write_6 rfl (lv_at hl 3 rfl) ?_
  obtain ⟨q_7, hc_7, hf⟩ := oc_e hf
  refine kcS (cc := c_Md_write) (own := "FloodDiaryModel") (index := 115) (wc := W_Row G 2400 (a 1) v.1) (wr := O_Md G a v ++ (W_Row G 2400 (a 2) v.2.1 ++ (W_Row G 14400 (a 3) v.2.2.1 ++ (W_Row G 4800 (a 4) v.2.2.2.2.1 ++ (W_RowZ G 2 (a 5) v.2.2.2.2.2.1 ++ (W_Row G 80 (a 6) v.2.2.2.2.2.2.1 ++ (([] : va_W)))))))) (wc' := W_Row G 2400 (a 1) v.1) (ws' := W_Md G a v) hx hb hml hown hts hK hN hA hP hD hS (t_Md_whyNotWrite l G (a 1) l1 l2 l3 v.1 q_7 hc_7) m_Md_whyNotWrite k_812 ⟨Nat.le_of_ble_eq_true rfl, Nat.le_of_ble_eq_true rfl⟩ (pm_12 (O_Md G a v) (W_Row G 2400 (a 1) v.1) (W_Row G 2400 (a 2) v.2.1) (W_Row G 14400 (a 3) v.2.2.1) (W_Row G 4800 (a 4) v.2.2.2.2.1) (W_RowZ G 2 (a 5) v.2.2.2.2.2.1) (W_Row G 80 (a 6) v.2.2.2.2.2.2.1)) (pm_12 (O_Md G a v) (W_Row G 2400 (a 1) v.1) (W_Row G 2400 (a 2) v.2.1) (W_Row G 14400 (a 3) v.2.2.1) (W_Row G 4800 (a 4) v.2.2.2.2.1) (W_RowZ G 2 (a 5) v.2.2.2.2.2.1) (W_Row G 80 (a 6) v.2.2.2.2.2.2.1)).symm rfl rfl (Nat.le_of_ble_eq_true rfl) hl.1 d_Md_write_7 ⟨Nat.zero_le _, Nat.zero_le _⟩ (fun H locs hP hD hS => ?_)
  refine lv_istore (lv' := [(4, .int q_7), (0, .ref (a 0)), (1, .int l1), (2, .int l2), (3, .int l3)]) hx hb d_Md_write_10 hl (by decide) rfl (fun ls hl => ?_)
  refine lv_iload hx hb d_Md_write_12 (lv_at hl 0 rfl) ?_
  refine lv_if_eq (tgt := 20) hx hb d_Md_write_14 (by decide) (fun c_14 => ?_) (fun c_14 => ?_)
  · replace hf := ob_et c_14 hf
    refine lv_aload_n hx hb d_Md_write_20 rfl (lv_at hl 1 rfl) ?_
    obtain ⟨q_21, hc_21, hf⟩ := oc_e hf
    refine kcVv (cc := c_Md_write) (own := "FloodDiaryModel") (index := 93) (wc := W_Md G a v) (wr := ([] : va_W)) (wc' := W_Md G a q_21) (ws' := W_Md G a q_21) hx hb hml hown hts hK hN hA hP hD hS (t_Md_record l G a v q_21 hc_21) m_Md_record k_789 ⟨Nat.le_of_ble_eq_true rfl, Nat.le_of_ble_eq_true rfl⟩ (pm_0 (W_Md G a v)) (pm_0 (W_Md G a q_21)).symm 9 0 rfl rfl rfl rfl rfl (Nat.le_of_ble_eq_true rfl) hl.1 d_Md_write_21 ⟨Nat.zero_le _, Nat.zero_le _⟩ (fun H locs hP hD hS => ?_)
    refine lv_aload_n hx hb d_Md_write_24 rfl (lv_at hl 1 rfl) ?_
    refine va_get (D := G.1) (ci := 9) (v := .ref (a 1)) (C := R_Md) (T := T_Md) (N := 9) hx hb hts in_Md hown hK hP 0 rfl rfl 0 (by decide) (hts _ k_753) (fun _ h9 => h9) rfl d_Md_write_25 ?_
    refine lv_iload_n hx hb d_Md_write_28 rfl (lv_at hl 2 rfl) ?_
    refine lv_iload_n hx hb d_Md_write_29 rfl (lv_at hl 3 rfl) ?_
    refine lv_iload_n hx hb d_Md_write_30 rfl (lv_at hl 4 rfl) ?_
    obtain ⟨q_31, hc_31, hf⟩ := oc_e hf
    refine kcS (cc := c_Md_write) (own := "FloodDiaryModel") (index := 119) (wc := W_Row G 2400 (a 1) q_21.1) (wr := O_Md G a q_21 ++ (W_Row G 2400 (a 2) q_21.2.1 ++ (W_Row G 14400 (a 3) q_21.2.2.1 ++ (W_Row G 4800 (a 4) q_21.2.2.2.2.1 ++ (W_RowZ G 2 (a 5) q_21.2.2.2.2.2.1 ++ (W_Row G 80 (a 6) q_21.2.2.2.2.2.2.1 ++ (([] : va_W)))))))) (wc' := W_Row G 2400 (a 1) q_31.2) (ws' := W_Md G a (q_31.2, q_21.2.1, q_21.2.2.1, q_21.2.2.2.1, q_21.2.2.2.2.1, q_21.2.2.2.2.2.1, q_21.2.2.2.2.2.2.1, q_21.2.2.2.2.2.2.2.1, q_21.2.2.2.2.2.2.2.2)) hx hb hml hown hts hK hN hA hP hD hS (t_Md_writeOn l G (a 1) l1 l2 l3 q_21.1 q_31 hc_31) m_Md_writeOn k_835 ⟨Nat.le_of_ble_eq_true rfl, Nat.le_of_ble_eq_true rfl⟩ (pm_12 (O_Md G a q_21) (W_Row G 2400 (a 1) q_21.1) (W_Row G 2400 (a 2) q_21.2.1) (W_Row G 14400 (a 3) q_21.2.2.1) (W_Row G 4800 (a 4) q_21.2.2.2.2.1) (W_RowZ G 2 (a 5) q_21.2.2.2.2.2.1) (W_Row G 80 (a 6) q_21.2.2.2.2.2.2.1)) (pm_12 (O_Md G a (q_31.2, q_21.2.1, q_21.2.2.1, q_21.2.2.2.1, q_21.2.2.2.2.1, q_21.2.2.2.2.2.1, q_21.2.2.2.2.2.2.1, q_21.2.2.2.2.2.2.2.1, q_21.2.2.2.2.2.2.2.2)) (W_Row G 2400 (a 1) q_31.2) (W_Row G 2400 (a 2) q_21.2.1) (W_Row G 14400 (a 3) q_21.2.2.1) (W_Row G 4800 (a 4) q_21.2.2.2.2.1) (W_RowZ G 2 (a 5) q_21.2.2.2.2.2.1) (W_Row G 80 (a 6) q_21.2.2.2.2.2.2.1)).symm rfl rfl (Nat.le_of_ble_eq_true rfl) hl.1 d_Md_write_31 ⟨Nat.zero_le _, Nat.zero_le _⟩ (fun H locs hP hD hS => ?_)
    cases hf
    exact kI hx hb hr hlk hP hD hS d_Md_write_34
  · replace hf := ob_ef c_14 hf
    refine lv_iload hx hb d_Md_write_17 (lv_at hl 0 rfl) ?_
    cases hf
    exact kI hx hb hr hlk hP hD hS d_Md_write_19
set_option maxHeartbeats 4000000 in
set_option maxRecDepth 100000 in
theorem t_Md_finish (l : Launch) (G : GG) (a : Nat → Nat) (l1 : Int32) (v : V_Md) (q : Int32 × V_Md) (hf : f_Md_finish l1 v = some q) : MI l G y_Md_finish c_Md_finish 3 (some .int) (rmk 4 92) (W_Md G a v) [.ref (a 0), .int l1] (W_Md G a q.2) (q.1) := by
  refine ofI "FloodDiaryModel" (by decide +kernel) rfl (Nat.le_of_ble_eq_true rfl) (fun p e s m args below meth c A ls hx hb hr hml hown hts hlk hK hN hA hP hD hS hl => ?_)
  have hl : lv_has ls 3 [(0, .ref (a 0)), (1, .int l1)] := hl
  unfold f_Md_finish at hf
  refine lv_aload_n hx hb d_Md_finish_0 rfl (lv_at hl 0 rfl) ?_
  refine va_get (D := G.1) (ci := 9) (v := .ref (a 1)) (C := R_Md) (T := T_Md) (N := 9) hx hb hts in_Md hown hK hP 0 rfl rfl 0 (by decide) (hts _ k_753) (fun _ h9 => h9) rfl d_Md_finish_1 ?_
  refine lv_iload_n hx hb d_Md_finish_4 rfl (lv_at hl 1 rfl) ?_
  obtain ⟨q_5, hc_5, hf⟩ := oc_e hf
  refine kcS (cc := c_Md_finish) (own := "FloodDiaryModel") (index := 125) (wc := W_Row G 2400 (a 1) v.1) (wr := O_Md G a v ++ (W_Row G 2400 (a 2) v.2.1 ++ (W_Row G 14400 (a 3) v.2.2.1 ++ (W_Row G 4800 (a 4) v.2.2.2.2.1 ++ (W_RowZ G 2 (a 5) v.2.2.2.2.2.1 ++ (W_Row G 80 (a 6) v.2.2.2.2.2.2.1 ++ (([] : va_W)))))))) (wc' := W_Row G 2400 (a 1) v.1) (ws' := W_Md G a v) hx hb hml hown hts hK hN hA hP hD hS (t_Md_whyNotFinish l G (a 1) l1 v.1 q_5 hc_5) m_Md_whyNotFinish k_848 ⟨Nat.le_of_ble_eq_true rfl, Nat.le_of_ble_eq_true rfl⟩ (pm_12 (O_Md G a v) (W_Row G 2400 (a 1) v.1) (W_Row G 2400 (a 2) v.2.1) (W_Row G 14400 (a 3) v.2.2.1) (W_Row G 4800 (a 4) v.2.2.2.2.1) (W_RowZ G 2 (a 5) v.2.2.2.2.2.1) (W_Row G 80 (a 6) v.2.2.2.2.2.2.1)) (pm_12 (O_Md G a v) (W_Row G 2400 (a 1) v.1) (W_Row G 2400 (a 2) v.2.1) (W_Row G 14400 (a 3) v.2.2.1) (W_Row G 4800 (a 4) v.2.2.2.2.1) (W_RowZ G 2 (a 5) v.2.2.2.2.2.1) (W_Row G 80 (a 6) v.2.2.2.2.2.2.1)).symm rfl rfl (Nat.le_of_ble_eq_true rfl) hl.1 d_Md_finish_5 ⟨Nat.zero_le _, Nat.zero_le _⟩ (fun H locs hP hD hS => ?_)
  refine lv_istore_n (lv' := [(2, .int q_5), (0, .ref (a 0)), (1, .int l1)]) hx hb d_Md_finish_8 rfl hl (by decide) rfl (fun ls hl => ?_)
  refine lv_iload_n hx hb d_Md_finish_9 rfl (lv_at hl 0 rfl) ?_
  refine lv_if_eq (tgt := 15) hx hb d_Md_finish_10 (by decide) (fun c_10 => ?_) (fun c_10 => ?_)
  · replace hf := ob_et c_10 hf
    refine lv_aload_n hx hb d_Md_finish_15 rfl (lv_at hl 1 rfl) ?_
    obtain ⟨q_16, hc_16, hf⟩ := oc_e hf
    refine kcVv (cc := c_Md_finish) (own := "FloodDiaryModel") (index := 93) (wc := W_Md G a v) (wr := ([] : va_W)) (wc' := W_Md G a q_16) (ws' := W_Md G a q_16) hx hb hml hown hts hK hN hA hP hD hS (t_Md_record l G a v q_16 hc_16) m_Md_record k_789 ⟨Nat.le_of_ble_eq_true rfl, Nat.le_of_ble_eq_true rfl⟩ (pm_0 (W_Md G a v)) (pm_0 (W_Md G a q_16)).symm 9 0 rfl rfl rfl rfl rfl (Nat.le_of_ble_eq_true rfl) hl.1 d_Md_finish_16 ⟨Nat.zero_le _, Nat.zero_le _⟩ (fun H locs hP hD hS => ?_)
    refine lv_aload_n hx hb d_Md_finish_19 rfl (lv_at hl 1 rfl) ?_
    refine va_get (D := G.1) (ci := 9) (v := .ref (a 1)) (C := R_Md) (T := T_Md) (N := 9) hx hb hts in_Md hown hK hP 0 rfl rfl 0 (by decide) (hts _ k_753) (fun _ h9 => h9) rfl d_Md_finish_20 ?_
    refine lv_iload_n hx hb d_Md_finish_23 rfl (lv_at hl 2 rfl) ?_
    obtain ⟨q_24, hc_24, hf⟩ := oc_e hf
    refine kcS (cc := c_Md_finish) (own := "FloodDiaryModel") (index := 128) (wc := W_Row G 2400 (a 1) q_16.1) (wr := O_Md G a q_16 ++ (W_Row G 2400 (a 2) q_16.2.1 ++ (W_Row G 14400 (a 3) q_16.2.2.1 ++ (W_Row G 4800 (a 4) q_16.2.2.2.2.1 ++ (W_RowZ G 2 (a 5) q_16.2.2.2.2.2.1 ++ (W_Row G 80 (a 6) q_16.2.2.2.2.2.2.1 ++ (([] : va_W)))))))) (wc' := W_Row G 2400 (a 1) q_24.2) (ws' := W_Md G a (q_24.2, q_16.2.1, q_16.2.2.1, q_16.2.2.2.1, q_16.2.2.2.2.1, q_16.2.2.2.2.2.1, q_16.2.2.2.2.2.2.1, q_16.2.2.2.2.2.2.2.1, q_16.2.2.2.2.2.2.2.2)) hx hb hml hown hts hK hN hA hP hD hS (t_Md_finishOn l G (a 1) l1 q_16.1 q_24 hc_24) m_Md_finishOn k_851 ⟨Nat.le_of_ble_eq_true rfl, Nat.le_of_ble_eq_true rfl⟩ (pm_12 (O_Md G a q_16) (W_Row G 2400 (a 1) q_16.1) (W_Row G 2400 (a 2) q_16.2.1) (W_Row G 14400 (a 3) q_16.2.2.1) (W_Row G 4800 (a 4) q_16.2.2.2.2.1) (W_RowZ G 2 (a 5) q_16.2.2.2.2.2.1) (W_Row G 80 (a 6) q_16.2.2.2.2.2.2.1)) (pm_12 (O_Md G a (q_24.2, q_16.2.1, q_16.2.2.1, q_16.2.2.2.1, q_16.2.2.2.2.1, q_16.2.2.2.2.2.1, q_16.2.2.2.2.2.2.1, q_16.2.2.2.2.2.2.2.1, q_16.2.2.2.2.2.2.2.2)) (W_Row G 2400 (a 1) q_24.2) (W_Row G 2400 (a 2) q_16.2.1) (W_Row G 14400 (a 3) q_16.2.2.1) (W_Row G 4800 (a 4) q_16.2.2.2.2.1) (W_RowZ G 2 (a 5) q_16.2.2.2.2.2.1) (W_Row G 80 (a 6) q_16.2.2.2.2.2.2.1)).symm rfl rfl (Nat.le_of_ble_eq_true rfl) hl.1 d_Md_finish_24 ⟨Nat.zero_le _, Nat.zero_le _⟩ (fun H locs hP hD hS => ?_)
    cases hf
    exact kI hx hb hr hlk hP hD hS d_Md_finish_27
  · replace hf := ob_ef c_10 hf
    refine lv_iload_n hx hb d_Md_finish_13 rfl (lv_at hl 0 rfl) ?_
    cases hf
    exact kI hx hb hr hlk hP hD hS d_Md_finish_14
set_option maxHeartbeats 4000000 in
set_option maxRecDepth 100000 in
theorem t_Md_tear (l : Launch) (G : GG) (a : Nat → Nat) (l1 : Int32) (v : V_Md) (q : Int32 × V_Md) (hf : f_Md_tear l1 v = some q) : MI l G y_Md_tear c_Md_tear 3 (some .int) (rmk 5 117) (W_Md G a v) [.ref (a 0), .int l1] (W_Md G a q.2) (q.1) := by
  refine ofI "FloodDiaryModel" (by decide +kernel) rfl (Nat.le_of_ble_eq_true rfl) (fun p e s m args below meth c A ls hx hb hr hml hown hts hlk hK hN hA hP hD hS hl => ?_)
  have hl : lv_has ls 3 [(0, .ref (a 0)), (1, .int l1)] := hl
  unfold f_Md_tear at hf
  refine lv_aload_n hx hb d_Md_tear_0 rfl (lv_at hl 0 rfl) ?_
  refine va_get (D := G.1) (ci := 9) (v := .ref (a 1)) (C := R_Md) (T := T_Md) (N := 9) hx hb hts in_Md hown hK hP 0 rfl rfl 0 (by decide) (hts _ k_753) (fun _ h9 => h9) rfl d_Md_tear_1 ?_
  refine lv_iload_n hx hb d_Md_tear_4 rfl (lv_at hl 1 rfl) ?_
  obtain ⟨q_5, hc_5, hf⟩ := oc_e hf
  refine kcS (cc := c_Md_tear) (own := "FloodDiaryModel") (index := 134) (wc := W_Row G 2400 (a 1) v.1) (wr := O_Md G a v ++ (W_Row G 2400 (a 2) v.2.1 ++ (W_Row G 14400 (a 3) v.2.2.1 ++ (W_Row G 4800 (a 4) v.2.2.2.2.1 ++ (W_RowZ G 2 (a 5) v.2.2.2.2.2.1 ++ (W_Row G 80 (a 6) v.2.2.2.2.2.2.1 ++ (([] : va_W)))))))) (wc' := W_Row G 2400 (a 1) v.1) (ws' := W_Md G a v) hx hb hml hown hts hK hN hA hP hD hS (t_Md_whyNotTear l G (a 1) l1 v.1 q_5 hc_5) m_Md_whyNotTear k_861 ⟨Nat.le_of_ble_eq_true rfl, Nat.le_of_ble_eq_true rfl⟩ (pm_12 (O_Md G a v) (W_Row G 2400 (a 1) v.1) (W_Row G 2400 (a 2) v.2.1) (W_Row G 14400 (a 3) v.2.2.1) (W_Row G 4800 (a 4) v.2.2.2.2.1) (W_RowZ G 2 (a 5) v.2.2.2.2.2.1) (W_Row G 80 (a 6) v.2.2.2.2.2.2.1)) (pm_12 (O_Md G a v) (W_Row G 2400 (a 1) v.1) (W_Row G 2400 (a 2) v.2.1) (W_Row G 14400 (a 3) v.2.2.1) (W_Row G 4800 (a 4) v.2.2.2.2.1) (W_RowZ G 2 (a 5) v.2.2.2.2.2.1) (W_Row G 80 (a 6) v.2.2.2.2.2.2.1)).symm rfl rfl (Nat.le_of_ble_eq_true rfl) hl.1 d_Md_tear_5 ⟨Nat.zero_le _, Nat.zero_le _⟩ (fun H locs hP hD hS => ?_)
  refine lv_istore_n (lv' := [(2, .int q_5), (0, .ref (a 0)), (1, .int l1)]) hx hb d_Md_tear_8 rfl hl (by decide) rfl (fun ls hl => ?_)
  refine lv_iload_n hx hb d_Md_tear_9 rfl (lv_at hl 0 rfl) ?_
  refine lv_if_eq (tgt := 15) hx hb d_Md_tear_10 (by decide) (fun c_10 => ?_) (fun c_10 => ?_)
  · replace hf := ob_et c_10 hf
    refine lv_aload_n hx hb d_Md_tear_15 rfl (lv_at hl 1 rfl) ?_
    obtain ⟨q_16, hc_16, hf⟩ := oc_e hf
    refine kcVv (cc := c_Md_tear) (own := "FloodDiaryModel") (index := 93) (wc := W_Md G a v) (wr := ([] : va_W)) (wc' := W_Md G a q_16) (ws' := W_Md G a q_16) hx hb hml hown hts hK hN hA hP hD hS (t_Md_record l G a v q_16 hc_16) m_Md_record k_789 ⟨Nat.le_of_ble_eq_true rfl, Nat.le_of_ble_eq_true rfl⟩ (pm_0 (W_Md G a v)) (pm_0 (W_Md G a q_16)).symm 9 0 rfl rfl rfl rfl rfl (Nat.le_of_ble_eq_true rfl) hl.1 d_Md_tear_16 ⟨Nat.zero_le _, Nat.zero_le _⟩ (fun H locs hP hD hS => ?_)
    refine lv_aload_n hx hb d_Md_tear_19 rfl (lv_at hl 1 rfl) ?_
    refine va_get (D := G.1) (ci := 9) (v := .ref (a 1)) (C := R_Md) (T := T_Md) (N := 9) hx hb hts in_Md hown hK hP 0 rfl rfl 0 (by decide) (hts _ k_753) (fun _ h9 => h9) rfl d_Md_tear_20 ?_
    refine lv_iload_n hx hb d_Md_tear_23 rfl (lv_at hl 2 rfl) ?_
    obtain ⟨q_24, hc_24, hf⟩ := oc_e hf
    refine kcS (cc := c_Md_tear) (own := "FloodDiaryModel") (index := 137) (wc := W_Row G 2400 (a 1) q_16.1) (wr := O_Md G a q_16 ++ (W_Row G 2400 (a 2) q_16.2.1 ++ (W_Row G 14400 (a 3) q_16.2.2.1 ++ (W_Row G 4800 (a 4) q_16.2.2.2.2.1 ++ (W_RowZ G 2 (a 5) q_16.2.2.2.2.2.1 ++ (W_Row G 80 (a 6) q_16.2.2.2.2.2.2.1 ++ (([] : va_W)))))))) (wc' := W_Row G 2400 (a 1) q_24.2) (ws' := W_Md G a (q_24.2, q_16.2.1, q_16.2.2.1, q_16.2.2.2.1, q_16.2.2.2.2.1, q_16.2.2.2.2.2.1, q_16.2.2.2.2.2.2.1, q_16.2.2.2.2.2.2.2.1, q_16.2.2.2.2.2.2.2.2)) hx hb hml hown hts hK hN hA hP hD hS (t_Md_tearOn l G (a 1) l1 q_16.1 q_24 hc_24) m_Md_tearOn k_867 ⟨Nat.le_of_ble_eq_true rfl, Nat.le_of_ble_eq_true rfl⟩ (pm_12 (O_Md G a q_16) (W_Row G 2400 (a 1) q_16.1) (W_Row G 2400 (a 2) q_16.2.1) (W_Row G 14400 (a 3) q_16.2.2.1) (W_Row G 4800 (a 4) q_16.2.2.2.2.1) (W_RowZ G 2 (a 5) q_16.2.2.2.2.2.1) (W_Row G 80 (a 6) q_16.2.2.2.2.2.2.1)) (pm_12 (O_Md G a (q_24.2, q_16.2.1, q_16.2.2.1, q_16.2.2.2.1, q_16.2.2.2.2.1, q_16.2.2.2.2.2.1, q_16.2.2.2.2.2.2.1, q_16.2.2.2.2.2.2.2.1, q_16.2.2.2.2.2.2.2.2)) (W_Row G 2400 (a 1) q_24.2) (W_Row G 2400 (a 2) q_16.2.1) (W_Row G 14400 (a 3) q_16.2.2.1) (W_Row G 4800 (a 4) q_16.2.2.2.2.1) (W_RowZ G 2 (a 5) q_16.2.2.2.2.2.1) (W_Row G 80 (a 6) q_16.2.2.2.2.2.2.1)).symm rfl rfl (Nat.le_of_ble_eq_true rfl) hl.1 d_Md_tear_24 ⟨Nat.zero_le _, Nat.zero_le _⟩ (fun H locs hP hD hS => ?_)
    cases hf
    exact kI hx hb hr hlk hP hD hS d_Md_tear_27
  · replace hf := ob_ef c_10 hf
    refine lv_iload_n hx hb d_Md_tear_13 rfl (lv_at hl 0 rfl) ?_
    cases hf
    exact kI hx hb hr hlk hP hD hS d_Md_tear_14
set_option maxHeartbeats 4000000 in
set_option maxRecDepth 100000 in
theorem t_Md_save (l : Launch) (G : GG) (a : Nat → Nat) (l1 : Int32) (v : V_Md) (q : Int32 × V_Md) (hf : f_Md_save l1 v = some q) : MI l G y_Md_save c_Md_save 3 (some .int) (rmk 2 46) (W_Md G a v) [.ref (a 0), .int l1] (W_Md G a q.2) (q.1) := by
  refine ofI "FloodDiaryModel" (by decide +kernel) rfl (Nat.le_of_ble_eq_true rfl) (fun p e s m args below meth c A ls hx hb hr hml hown hts hlk hK hN hA hP hD hS hl => ?_)
  have hl : lv_has ls 3 [(0, .ref (a 0)), (1, .int l1)] := hl
  unfold f_Md_save at hf
  refine lv_aload_n hx hb d_Md_save_0 rfl (lv_at hl 0 rfl) ?_
  refine va_get (D := G.1) (ci := 9) (v := .ref (a 1)) (C := R_Md) (T := T_Md) (N := 9) hx hb hts in_Md hown hK hP 0 rfl rfl 0 (by decide) (hts _ k_753) (fun _ h9 => h9) rfl d_Md_save_1 ?_
  refine lv_iload_n hx hb d_Md_save_4 rfl (lv_at hl 1 rfl) ?_
  obtain ⟨q_5, hc_5, hf⟩ := oc_e hf
  refine kcS (cc := c_Md_save) (own := "FloodDiaryModel") (index := 140) (wc := W_Row G 2400 (a 1) v.1) (wr := O_Md G a v ++ (W_Row G 2400 (a 2) v.2.1 ++ (W_Row G 14400 (a 3) v.2.2.1 ++ (W_Row G 4800 (a 4) v.2.2.2.2.1 ++ (W_RowZ G 2 (a 5) v.2.2.2.2.2.1 ++ (W_Row G 80 (a 6) v.2.2.2.2.2.2.1 ++ (([] : va_W)))))))) (wc' := W_Row G 2400 (a 1) v.1) (ws' := W_Md G a v) hx hb hml hown hts hK hN hA hP hD hS (t_Md_whyNotSave l G (a 1) l1 v.1 q_5 hc_5) m_Md_whyNotSave k_880 ⟨Nat.le_of_ble_eq_true rfl, Nat.le_of_ble_eq_true rfl⟩ (pm_12 (O_Md G a v) (W_Row G 2400 (a 1) v.1) (W_Row G 2400 (a 2) v.2.1) (W_Row G 14400 (a 3) v.2.2.1) (W_Row G 4800 (a 4) v.2.2.2.2.1) (W_RowZ G 2 (a 5) v.2.2.2.2.2.1) (W_Row G 80 (a 6) v.2.2.2.2.2.2.1)) (pm_12 (O_Md G a v) (W_Row G 2400 (a 1) v.1) (W_Row G 2400 (a 2) v.2.1) (W_Row G 14400 (a 3) v.2.2.1) (W_Row G 4800 (a 4) v.2.2.2.2.1) (W_RowZ G 2 (a 5) v.2.2.2.2.2.1) (W_Row G 80 (a 6) v.2.2.2.2.2.2.1)).symm rfl rfl (Nat.le_of_ble_eq_true rfl) hl.1 d_Md_save_5 ⟨Nat.zero_le _, Nat.zero_le _⟩ (fun H locs hP hD hS => ?_)
  refine lv_istore_n (lv' := [(2, .int q_5), (0, .ref (a 0)), (1, .int l1)]) hx hb d_Md_save_8 rfl hl (by decide) rfl (fun ls hl => ?_)
  refine lv_iload_n hx hb d_Md_save_9 rfl (lv_at hl 0 rfl) ?_
  refine lv_if_eq (tgt := 15) hx hb d_Md_save_10 (by decide) (fun c_10 => ?_) (fun c_10 => ?_)
  · replace hf := ob_et c_10 hf
    refine lv_aload_n hx hb d_Md_save_15 rfl (lv_at hl 1 rfl) ?_
    obtain ⟨q_16, hc_16, hf⟩ := oc_e hf
    refine kcVv (cc := c_Md_save) (own := "FloodDiaryModel") (index := 93) (wc := W_Md G a v) (wr := ([] : va_W)) (wc' := W_Md G a q_16) (ws' := W_Md G a q_16) hx hb hml hown hts hK hN hA hP hD hS (t_Md_record l G a v q_16 hc_16) m_Md_record k_789 ⟨Nat.le_of_ble_eq_true rfl, Nat.le_of_ble_eq_true rfl⟩ (pm_0 (W_Md G a v)) (pm_0 (W_Md G a q_16)).symm 9 0 rfl rfl rfl rfl rfl (Nat.le_of_ble_eq_true rfl) hl.1 d_Md_save_16 ⟨Nat.zero_le _, Nat.zero_le _⟩ (fun H locs hP hD hS => ?_)
    refine lv_aload_n hx hb d_Md_save_19 rfl (lv_at hl 1 rfl) ?_
    refine va_get (D := G.1) (ci := 9) (v := .ref (a 1)) (C := R_Md) (T := T_Md) (N := 9) hx hb hts in_Md hown hK hP 0 rfl rfl 0 (by decide) (hts _ k_753) (fun _ h9 => h9) rfl d_Md_save_20 ?_
    refine lv_iload_n hx hb d_Md_save_23 rfl (lv_at hl 2 rfl) ?_
    obtain ⟨q_24, hc_24, hf⟩ := oc_e hf
    refine kcSv (cc := c_Md_save) (own := "FloodDiaryModel") (index := 122) (wc := W_Row G 2400 (a 1) q_16.1) (wr := O_Md G a q_16 ++ (W_Row G 2400 (a 2) q_16.2.1 ++ (W_Row G 14400 (a 3) q_16.2.2.1 ++ (W_Row G 4800 (a 4) q_16.2.2.2.2.1 ++ (W_RowZ G 2 (a 5) q_16.2.2.2.2.2.1 ++ (W_Row G 80 (a 6) q_16.2.2.2.2.2.2.1 ++ (([] : va_W)))))))) (wc' := W_Row G 2400 (a 1) q_24) (ws' := W_Md G a (q_24, q_16.2.1, q_16.2.2.1, q_16.2.2.2.1, q_16.2.2.2.2.1, q_16.2.2.2.2.2.1, q_16.2.2.2.2.2.2.1, q_16.2.2.2.2.2.2.2.1, q_16.2.2.2.2.2.2.2.2)) hx hb hml hown hts hK hN hA hP hD hS (t_Md_saveTo l G (a 1) l1 q_16.1 q_24 hc_24) m_Md_saveTo k_854 ⟨Nat.le_of_ble_eq_true rfl, Nat.le_of_ble_eq_true rfl⟩ (pm_12 (O_Md G a q_16) (W_Row G 2400 (a 1) q_16.1) (W_Row G 2400 (a 2) q_16.2.1) (W_Row G 14400 (a 3) q_16.2.2.1) (W_Row G 4800 (a 4) q_16.2.2.2.2.1) (W_RowZ G 2 (a 5) q_16.2.2.2.2.2.1) (W_Row G 80 (a 6) q_16.2.2.2.2.2.2.1)) (pm_12 (O_Md G a (q_24, q_16.2.1, q_16.2.2.1, q_16.2.2.2.1, q_16.2.2.2.2.1, q_16.2.2.2.2.2.1, q_16.2.2.2.2.2.2.1, q_16.2.2.2.2.2.2.2.1, q_16.2.2.2.2.2.2.2.2)) (W_Row G 2400 (a 1) q_24) (W_Row G 2400 (a 2) q_16.2.1) (W_Row G 14400 (a 3) q_16.2.2.1) (W_Row G 4800 (a 4) q_16.2.2.2.2.1) (W_RowZ G 2 (a 5) q_16.2.2.2.2.2.1) (W_Row G 80 (a 6) q_16.2.2.2.2.2.2.1)).symm rfl rfl (Nat.le_of_ble_eq_true rfl) hl.1 d_Md_save_24 ⟨Nat.zero_le _, Nat.zero_le _⟩ (fun H locs hP hD hS => ?_)
    refine lv_aload_n hx hb d_Md_save_27 rfl (lv_at hl 1 rfl) ?_
    refine va_get (D := G.1) (ci := 9) (v := .ref (a 1)) (C := R_Md) (T := T_Md) (N := 9) hx hb hts in_Md hown hK hP 0 rfl rfl 0 (by decide) (hts _ k_753) (fun _ h9 => h9) rfl d_Md_save_28 ?_
    refine lv_bipush (v := (58 : Int32)) hx hb d_Md_save_31 (by decide) ?_
    obtain ⟨g_33, hf⟩ := og_e hf
    refine va_iald hx hb hK hP 1 0 rfl rfl g_33 d_Md_save_33 ?_
    cases hf
    exact kI hx hb hr hlk hP hD hS d_Md_save_34
  · replace hf := ob_ef c_10 hf
    refine lv_iload_n hx hb d_Md_save_13 rfl (lv_at hl 0 rfl) ?_
    cases hf
    exact kI hx hb hr hlk hP hD hS d_Md_save_14
set_option maxHeartbeats 4000000 in
set_option maxRecDepth 100000 in
theorem t_Md_putAway (l : Launch) (G : GG) (a : Nat → Nat) (l1 : Int32) (v : V_Md) (q : Int32 × V_Md) (hf : f_Md_putAway l1 v = some q) : MI l G y_Md_putAway c_Md_putAway 3 (some .int) (rmk 3 66) (W_Md G a v) [.ref (a 0), .int l1] (W_Md G a q.2) (q.1) := by
  refine ofI "FloodDiaryModel" (by decide +kernel) rfl (Nat.le_of_ble_eq_true rfl) (fun p e s m args below meth c A ls hx hb hr hml hown hts hlk hK hN hA hP hD hS hl => ?_)
  have hl : lv_has ls 3 [(0, .ref (a 0)), (1, .int l1)] := hl
  unfold f_Md_putAway at hf
  refine lv_aload_n hx hb d_Md_putAway_0 rfl (lv_at hl 0 rfl) ?_
  refine va_get (D := G.1) (ci := 9) (v := .ref (a 1)) (C := R_Md) (T := T_Md) (N := 9) hx hb hts in_Md hown hK hP 0 rfl rfl 0 (by decide) (hts _ k_753) (fun _ h9 => h9) rfl d_Md_putAway_1 ?_
  refine lv_iload_n hx hb d_Md_putAway_4 rfl (lv_at hl 1 rfl) ?_
  obtain ⟨q_5, hc_5, hf⟩ := oc_e hf
  refine kcS (cc := c_Md_putAway) (own := "FloodDiaryModel") (index := 143) (wc := W_Row G 2400 (a 1) v.1) (wr := O_Md G a v ++ (W_Row G 2400 (a 2) v.2.1 ++ (W_Row G 14400 (a 3) v.2.2.1 ++ (W_Row G 4800 (a 4) v.2.2.2.2.1 ++ (W_RowZ G 2 (a 5) v.2.2.2.2.2.1 ++ (W_Row G 80 (a 6) v.2.2.2.2.2.2.1 ++ (([] : va_W)))))))) (wc' := W_Row G 2400 (a 1) v.1) (ws' := W_Md G a v) hx hb hml hown hts hK hN hA hP hD hS (t_Md_whyNotPutAway l G (a 1) l1 v.1 q_5 hc_5) m_Md_whyNotPutAway k_887 ⟨Nat.le_of_ble_eq_true rfl, Nat.le_of_ble_eq_true rfl⟩ (pm_12 (O_Md G a v) (W_Row G 2400 (a 1) v.1) (W_Row G 2400 (a 2) v.2.1) (W_Row G 14400 (a 3) v.2.2.1) (W_Row G 4800 (a 4) v.2.2.2.2.1) (W_RowZ G 2 (a 5) v.2.2.2.2.2.1) (W_Row G 80 (a 6) v.2.2.2.2.2.2.1)) (pm_12 (O_Md G a v) (W_Row G 2400 (a 1) v.1) (W_Row G 2400 (a 2) v.2.1) (W_Row G 14400 (a 3) v.2.2.1) (W_Row G 4800 (a 4) v.2.2.2.2.1) (W_RowZ G 2 (a 5) v.2.2.2.2.2.1) (W_Row G 80 (a 6) v.2.2.2.2.2.2.1)).symm rfl rfl (Nat.le_of_ble_eq_true rfl) hl.1 d_Md_putAway_5 ⟨Nat.zero_le _, Nat.zero_le _⟩ (fun H locs hP hD hS => ?_)
  refine lv_istore_n (lv' := [(2, .int q_5), (0, .ref (a 0)), (1, .int l1)]) hx hb d_Md_putAway_8 rfl hl (by decide) rfl (fun ls hl => ?_)
  refine lv_iload_n hx hb d_Md_putAway_9 rfl (lv_at hl 0 rfl) ?_
  refine lv_if_eq (tgt := 15) hx hb d_Md_putAway_10 (by decide) (fun c_10 => ?_) (fun c_10 => ?_)
  · replace hf := ob_et c_10 hf
    refine lv_aload_n hx hb d_Md_putAway_15 rfl (lv_at hl 1 rfl) ?_
    obtain ⟨q_16, hc_16, hf⟩ := oc_e hf
    refine kcVv (cc := c_Md_putAway) (own := "FloodDiaryModel") (index := 93) (wc := W_Md G a v) (wr := ([] : va_W)) (wc' := W_Md G a q_16) (ws' := W_Md G a q_16) hx hb hml hown hts hK hN hA hP hD hS (t_Md_record l G a v q_16 hc_16) m_Md_record k_789 ⟨Nat.le_of_ble_eq_true rfl, Nat.le_of_ble_eq_true rfl⟩ (pm_0 (W_Md G a v)) (pm_0 (W_Md G a q_16)).symm 9 0 rfl rfl rfl rfl rfl (Nat.le_of_ble_eq_true rfl) hl.1 d_Md_putAway_16 ⟨Nat.zero_le _, Nat.zero_le _⟩ (fun H locs hP hD hS => ?_)
    refine lv_aload_n hx hb d_Md_putAway_19 rfl (lv_at hl 1 rfl) ?_
    refine va_get (D := G.1) (ci := 9) (v := .ref (a 1)) (C := R_Md) (T := T_Md) (N := 9) hx hb hts in_Md hown hK hP 0 rfl rfl 0 (by decide) (hts _ k_753) (fun _ h9 => h9) rfl d_Md_putAway_20 ?_
    refine lv_iload_n hx hb d_Md_putAway_23 rfl (lv_at hl 2 rfl) ?_
    obtain ⟨q_24, hc_24, hf⟩ := oc_e hf
    refine kcS (cc := c_Md_putAway) (own := "FloodDiaryModel") (index := 146) (wc := W_Row G 2400 (a 1) q_16.1) (wr := O_Md G a q_16 ++ (W_Row G 2400 (a 2) q_16.2.1 ++ (W_Row G 14400 (a 3) q_16.2.2.1 ++ (W_Row G 4800 (a 4) q_16.2.2.2.2.1 ++ (W_RowZ G 2 (a 5) q_16.2.2.2.2.2.1 ++ (W_Row G 80 (a 6) q_16.2.2.2.2.2.2.1 ++ (([] : va_W)))))))) (wc' := W_Row G 2400 (a 1) q_24.2) (ws' := W_Md G a (q_24.2, q_16.2.1, q_16.2.2.1, q_16.2.2.2.1, q_16.2.2.2.2.1, q_16.2.2.2.2.2.1, q_16.2.2.2.2.2.2.1, q_16.2.2.2.2.2.2.2.1, q_16.2.2.2.2.2.2.2.2)) hx hb hml hown hts hK hN hA hP hD hS (t_Md_putAwayOn l G (a 1) l1 q_16.1 q_24 hc_24) m_Md_putAwayOn k_890 ⟨Nat.le_of_ble_eq_true rfl, Nat.le_of_ble_eq_true rfl⟩ (pm_12 (O_Md G a q_16) (W_Row G 2400 (a 1) q_16.1) (W_Row G 2400 (a 2) q_16.2.1) (W_Row G 14400 (a 3) q_16.2.2.1) (W_Row G 4800 (a 4) q_16.2.2.2.2.1) (W_RowZ G 2 (a 5) q_16.2.2.2.2.2.1) (W_Row G 80 (a 6) q_16.2.2.2.2.2.2.1)) (pm_12 (O_Md G a (q_24.2, q_16.2.1, q_16.2.2.1, q_16.2.2.2.1, q_16.2.2.2.2.1, q_16.2.2.2.2.2.1, q_16.2.2.2.2.2.2.1, q_16.2.2.2.2.2.2.2.1, q_16.2.2.2.2.2.2.2.2)) (W_Row G 2400 (a 1) q_24.2) (W_Row G 2400 (a 2) q_16.2.1) (W_Row G 14400 (a 3) q_16.2.2.1) (W_Row G 4800 (a 4) q_16.2.2.2.2.1) (W_RowZ G 2 (a 5) q_16.2.2.2.2.2.1) (W_Row G 80 (a 6) q_16.2.2.2.2.2.2.1)).symm rfl rfl (Nat.le_of_ble_eq_true rfl) hl.1 d_Md_putAway_24 ⟨Nat.zero_le _, Nat.zero_le _⟩ (fun H locs hP hD hS => ?_)
    cases hf
    exact kI hx hb hr hlk hP hD hS d_Md_putAway_27
  · replace hf := ob_ef c_10 hf
    refine lv_iload_n hx hb d_Md_putAway_13 rfl (lv_at hl 0 rfl) ?_
    cases hf
    exact kI hx hb hr hlk hP hD hS d_Md_putAway_14
set_option maxHeartbeats 4000000 in
set_option maxRecDepth 100000 in
theorem t_Md_flood (l : Launch) (G : GG) (a : Nat → Nat) (v : V_Md) (q : Int32 × V_Md) (hf : f_Md_flood v = some q) : MI l G y_Md_flood c_Md_flood 1 (some .int) (rmk 3 66) (W_Md G a v) [.ref (a 0)] (W_Md G a q.2) (q.1) := by
  refine ofI "FloodDiaryModel" (by decide +kernel) rfl (Nat.le_of_ble_eq_true rfl) (fun p e s m args below meth c A ls hx hb hr hml hown hts hlk hK hN hA hP hD hS hl => ?_)
  have hl : lv_has ls 1 [(0, .ref (a 0))] := hl
  unfold f_Md_flood at hf
  refine lv_aload_n hx hb d_Md_flood_0 rfl (lv_at hl 0 rfl) ?_
  obtain ⟨q_1, hc_1, hf⟩ := oc_e hf
  refine kcVv (cc := c_Md_flood) (own := "FloodDiaryModel") (index := 93) (wc := W_Md G a v) (wr := ([] : va_W)) (wc' := W_Md G a q_1) (ws' := W_Md G a q_1) hx hb hml hown hts hK hN hA hP hD hS (t_Md_record l G a v q_1 hc_1) m_Md_record k_789 ⟨Nat.le_of_ble_eq_true rfl, Nat.le_of_ble_eq_true rfl⟩ (pm_0 (W_Md G a v)) (pm_0 (W_Md G a q_1)).symm 9 0 rfl rfl rfl rfl rfl (Nat.le_of_ble_eq_true rfl) hl.1 d_Md_flood_1 ⟨Nat.zero_le _, Nat.zero_le _⟩ (fun H locs hP hD hS => ?_)
  refine lv_aload_n hx hb d_Md_flood_4 rfl (lv_at hl 0 rfl) ?_
  refine va_get (D := G.1) (ci := 9) (v := .ref (a 1)) (C := R_Md) (T := T_Md) (N := 9) hx hb hts in_Md hown hK hP 0 rfl rfl 0 (by decide) (hts _ k_753) (fun _ h9 => h9) rfl d_Md_flood_5 ?_
  obtain ⟨q_8, hc_8, hf⟩ := oc_e hf
  refine kcS (cc := c_Md_flood) (own := "FloodDiaryModel") (index := 149) (wc := W_Row G 2400 (a 1) q_1.1) (wr := O_Md G a q_1 ++ (W_Row G 2400 (a 2) q_1.2.1 ++ (W_Row G 14400 (a 3) q_1.2.2.1 ++ (W_Row G 4800 (a 4) q_1.2.2.2.2.1 ++ (W_RowZ G 2 (a 5) q_1.2.2.2.2.2.1 ++ (W_Row G 80 (a 6) q_1.2.2.2.2.2.2.1 ++ (([] : va_W)))))))) (wc' := W_Row G 2400 (a 1) q_8.2) (ws' := W_Md G a (q_8.2, q_1.2.1, q_1.2.2.1, q_1.2.2.2.1, q_1.2.2.2.2.1, q_1.2.2.2.2.2.1, q_1.2.2.2.2.2.2.1, q_1.2.2.2.2.2.2.2.1, q_1.2.2.2.2.2.2.2.2)) hx hb hml hown hts hK hN hA hP hD hS (t_Md_floodOn l G (a 1) q_1.1 q_8 hc_8) m_Md_floodOn k_897 ⟨Nat.le_of_ble_eq_true rfl, Nat.le_of_ble_eq_true rfl⟩ (pm_12 (O_Md G a q_1) (W_Row G 2400 (a 1) q_1.1) (W_Row G 2400 (a 2) q_1.2.1) (W_Row G 14400 (a 3) q_1.2.2.1) (W_Row G 4800 (a 4) q_1.2.2.2.2.1) (W_RowZ G 2 (a 5) q_1.2.2.2.2.2.1) (W_Row G 80 (a 6) q_1.2.2.2.2.2.2.1)) (pm_12 (O_Md G a (q_8.2, q_1.2.1, q_1.2.2.1, q_1.2.2.2.1, q_1.2.2.2.2.1, q_1.2.2.2.2.2.1, q_1.2.2.2.2.2.2.1, q_1.2.2.2.2.2.2.2.1, q_1.2.2.2.2.2.2.2.2)) (W_Row G 2400 (a 1) q_8.2) (W_Row G 2400 (a 2) q_1.2.1) (W_Row G 14400 (a 3) q_1.2.2.1) (W_Row G 4800 (a 4) q_1.2.2.2.2.1) (W_RowZ G 2 (a 5) q_1.2.2.2.2.2.1) (W_Row G 80 (a 6) q_1.2.2.2.2.2.2.1)).symm rfl rfl (Nat.le_of_ble_eq_true rfl) hl.1 d_Md_flood_8 ⟨Nat.zero_le _, Nat.zero_le _⟩ (fun H locs hP hD hS => ?_)
  cases hf
  exact kI hx hb hr hlk hP hD hS d_Md_flood_11
set_option maxHeartbeats 4000000 in
set_option maxRecDepth 100000 in
theorem t_Md_blur (l : Launch) (G : GG) (a : Nat → Nat) (l1 : Int32) (v : V_Md) (q : Int32 × V_Md) (hf : f_Md_blur l1 v = some q) : MI l G y_Md_blur c_Md_blur 5 (some .int) (rmk 2 45) (W_Md G a v) [.ref (a 0), .int l1] (W_Md G a q.2) (q.1) := by
  refine ofI "FloodDiaryModel" (by decide +kernel) rfl (Nat.le_of_ble_eq_true rfl) (fun p e s m args below meth c A ls hx hb hr hml hown hts hlk hK hN hA hP hD hS hl => ?_)
  have hl : lv_has ls 5 [(0, .ref (a 0)), (1, .int l1)] := hl
  have J_59 : ∀ (n_59 : Nat) (l2 : Int32) (l3 : Int32) (l4 : Int32) (v : V_Md) (H : Heap) (locs : List Loc) (ls : Array Slot), va_P G.1 vwCl (W_Md G a v) H → va_D A (W_Md G a v) → va_S A s.heap H locs → lv_has ls 5 [(0, .ref (a 0)), (2, .int l2), (3, .int l3), (4, .int l4)] → f_Md_blur_59 n_59 l2 l3 l4 v = some q → W p l e (rmk 2 45) s m args below meth c H locs 0 0 (MQ below (qI G A (W_Md G a q.2) (q.1)) args s 0 0 A) (F0 m 59 ls []) := by
    intro n_59
    induction n_59 with
    | zero => intro l2 l3 l4 v H locs ls hP hD hS hl hf; exact absurd hf (by unfold f_Md_blur_59; exact fun z => by cases z)
    | succ n_59 ih_59 =>
      intro l2 l3 l4 v H locs ls hP hD hS hl hf
      rw [f_Md_blur_59] at hf
      refine lv_iload hx hb d_Md_blur_59 (lv_at hl 3 rfl) ?_
      refine lv_bipush (v := (8 : Int32)) hx hb d_Md_blur_61 (by decide) ?_
      refine lv_icmp_ge (tgt := 96) hx hb d_Md_blur_63 (by decide) (fun c_63 => ?_) (fun c_63 => ?_)
      · replace hf := ob_et c_63 hf
        refine lv_iload_n hx hb d_Md_blur_96 rfl (lv_at hl 2 rfl) ?_
        refine lv_if_ne (tgt := 103) hx hb d_Md_blur_97 (by decide) (fun c_97 => ?_) (fun c_97 => ?_)
        · replace hf := ob_ef c_97 hf
          refine lv_aload_n hx hb d_Md_blur_103 rfl (lv_at hl 0 rfl) ?_
          obtain ⟨q_104, hc_104, hf⟩ := oc_e hf
          refine kcVv (cc := c_Md_blur) (own := "FloodDiaryModel") (index := 93) (wc := W_Md G a v) (wr := ([] : va_W)) (wc' := W_Md G a q_104) (ws' := W_Md G a q_104) hx hb hml hown hts hK hN hA hP hD hS (t_Md_record l G a v q_104 hc_104) m_Md_record k_789 ⟨Nat.le_of_ble_eq_true rfl, Nat.le_of_ble_eq_true rfl⟩ (pm_0 (W_Md G a v)) (pm_0 (W_Md G a q_104)).symm 9 0 rfl rfl rfl rfl rfl (Nat.le_of_ble_eq_true rfl) hl.1 d_Md_blur_104 ⟨Nat.zero_le _, Nat.zero_le _⟩ (fun H locs hP hD hS => ?_)
          refine lv_aload_n hx hb d_Md_blur_107 rfl (lv_at hl 0 rfl) ?_
          refine va_get (D := G.1) (ci := 9) (v := .ref (a 1)) (C := R_Md) (T := T_Md) (N := 9) hx hb hts in_Md hown hK hP 0 rfl rfl 0 (by decide) (hts _ k_753) (fun _ h9 => h9) rfl d_Md_blur_108 ?_
          refine lv_iload_n hx hb d_Md_blur_111 rfl (lv_at hl 1 rfl) ?_
          obtain ⟨q_112, hc_112, hf⟩ := oc_e hf
          refine kcSv (cc := c_Md_blur) (own := "FloodDiaryModel") (index := 68) (wc := W_Row G 2400 (a 1) q_104.1) (wr := O_Md G a q_104 ++ (W_Row G 2400 (a 2) q_104.2.1 ++ (W_Row G 14400 (a 3) q_104.2.2.1 ++ (W_Row G 4800 (a 4) q_104.2.2.2.2.1 ++ (W_RowZ G 2 (a 5) q_104.2.2.2.2.2.1 ++ (W_Row G 80 (a 6) q_104.2.2.2.2.2.2.1 ++ (([] : va_W)))))))) (wc' := W_Row G 2400 (a 1) q_112) (ws' := W_Md G a (q_112, q_104.2.1, q_104.2.2.1, q_104.2.2.2.1, q_104.2.2.2.2.1, q_104.2.2.2.2.2.1, q_104.2.2.2.2.2.2.1, q_104.2.2.2.2.2.2.2.1, q_104.2.2.2.2.2.2.2.2)) hx hb hml hown hts hK hN hA hP hD hS (t_Md_lose l G (a 1) l2 q_104.1 q_112 hc_112) m_Md_lose k_900 ⟨Nat.le_of_ble_eq_true rfl, Nat.le_of_ble_eq_true rfl⟩ (pm_12 (O_Md G a q_104) (W_Row G 2400 (a 1) q_104.1) (W_Row G 2400 (a 2) q_104.2.1) (W_Row G 14400 (a 3) q_104.2.2.1) (W_Row G 4800 (a 4) q_104.2.2.2.2.1) (W_RowZ G 2 (a 5) q_104.2.2.2.2.2.1) (W_Row G 80 (a 6) q_104.2.2.2.2.2.2.1)) (pm_12 (O_Md G a (q_112, q_104.2.1, q_104.2.2.1, q_104.2.2.2.1, q_104.2.2.2.2.1, q_104.2.2.2.2.2.1, q_104.2.2.2.2.2.2.1, q_104.2.2.2.2.2.2.2.1, q_104.2.2.2.2.2.2.2.2)) (W_Row G 2400 (a 1) q_112) (W_Row G 2400 (a 2) q_104.2.1) (W_Row G 14400 (a 3) q_104.2.2.1) (W_Row G 4800 (a 4) q_104.2.2.2.2.1) (W_RowZ G 2 (a 5) q_104.2.2.2.2.2.1) (W_Row G 80 (a 6) q_104.2.2.2.2.2.2.1)).symm rfl rfl (Nat.le_of_ble_eq_true rfl) hl.1 d_Md_blur_112 ⟨Nat.zero_le _, Nat.zero_le _⟩ (fun H locs hP hD hS => ?_)
          refine lv_iload_n hx hb d_Md_blur_115 rfl (lv_at hl 1 rfl) ?_
          cases hf
          exact kI hx hb hr hlk hP hD hS d_Md_blur_116
        · replace hf := ob_et c_97 hf
          refine lv_bipush (v := (-5 : Int32)) hx hb d_Md_blur_100 (by decide) ?_
          cases hf
          exact kI hx hb hr hlk hP hD hS d_Md_blur_102
      · replace hf := ob_ef c_63 hf
        refine lv_iload_n hx hb d_Md_blur_66 rfl (lv_at hl 2 rfl) ?_
        refine lv_if_eq (tgt := 88) hx hb d_Md_blur_67 (by decide) (fun c_67 => ?_) (fun c_67 => ?_)
        · replace hf := ob_et c_67 hf
          refine lv_iconst (v := (0 : Int32)) hx hb d_Md_blur_88 (by decide) ?_
          refine lv_istore_n (lv' := [(3, .int (0 : Int32)), (0, .ref (a 0)), (2, .int l2), (4, .int l4)]) hx hb d_Md_blur_89 rfl hl (by decide) rfl (fun ls hl => ?_)
          refine lv_iinc (v := (l4 + (1 : Int32))) (lv' := [(4, .int (l4 + (1 : Int32))), (3, .int (0 : Int32)), (0, .ref (a 0)), (2, .int l2)]) hx hb d_Md_blur_90 hl (k := 3) rfl rfl (by decide) rfl (fun ls hl => ?_)
          refine lv_goto (tgt := 59) hx hb d_Md_blur_93 (by decide) ?_
          exact ih_59 l2 (0 : Int32) (l4 + (1 : Int32)) v _ _ ls hP hD hS (lv_sub hl [2, 3, 1, 0] rfl) hf
        · replace hf := ob_ef c_67 hf
          refine lv_aload_n hx hb d_Md_blur_70 rfl (lv_at hl 0 rfl) ?_
          refine va_get (D := G.1) (ci := 9) (v := .ref (a 1)) (C := R_Md) (T := T_Md) (N := 9) hx hb hts in_Md hown hK hP 0 rfl rfl 0 (by decide) (hts _ k_753) (fun _ h9 => h9) rfl d_Md_blur_71 ?_
          refine lv_bipush (v := (8 : Int32)) hx hb d_Md_blur_74 (by decide) ?_
          refine lv_iload hx hb d_Md_blur_76 (lv_at hl 3 rfl) ?_
          refine lv_iadd hx hb d_Md_blur_78 ?_
          obtain ⟨g_79, hf⟩ := og_e hf
          refine va_iald hx hb hK hP 1 0 rfl rfl g_79 d_Md_blur_79 ?_
          refine lv_iload_n hx hb d_Md_blur_80 rfl (lv_at hl 1 rfl) ?_
          refine lv_icmp_gt (tgt := 88) hx hb d_Md_blur_81 (by decide) (fun c_81 => ?_) (fun c_81 => ?_)
          · replace hf := ob_et c_81 hf
            refine lv_iconst (v := (0 : Int32)) hx hb d_Md_blur_88 (by decide) ?_
            refine lv_istore_n (lv' := [(3, .int (0 : Int32)), (0, .ref (a 0)), (2, .int l2), (4, .int l4)]) hx hb d_Md_blur_89 rfl hl (by decide) rfl (fun ls hl => ?_)
            refine lv_iinc (v := (l4 + (1 : Int32))) (lv' := [(4, .int (l4 + (1 : Int32))), (3, .int (0 : Int32)), (0, .ref (a 0)), (2, .int l2)]) hx hb d_Md_blur_90 hl (k := 3) rfl rfl (by decide) rfl (fun ls hl => ?_)
            refine lv_goto (tgt := 59) hx hb d_Md_blur_93 (by decide) ?_
            exact ih_59 l2 (0 : Int32) (l4 + (1 : Int32)) v _ _ ls hP hD hS (lv_sub hl [2, 3, 1, 0] rfl) hf
          · replace hf := ob_ef c_81 hf
            refine lv_iconst (v := (1 : Int32)) hx hb d_Md_blur_84 (by decide) ?_
            refine lv_goto (tgt := 89) hx hb d_Md_blur_85 (by decide) ?_
            refine lv_istore_n (lv' := [(3, .int (1 : Int32)), (0, .ref (a 0)), (2, .int l2), (4, .int l4)]) hx hb d_Md_blur_89 rfl hl (by decide) rfl (fun ls hl => ?_)
            refine lv_iinc (v := (l4 + (1 : Int32))) (lv' := [(4, .int (l4 + (1 : Int32))), (3, .int (1 : Int32)), (0, .ref (a 0)), (2, .int l2)]) hx hb d_Md_blur_90 hl (k := 3) rfl rfl (by decide) rfl (fun ls hl => ?_)
            refine lv_goto (tgt := 59) hx hb d_Md_blur_93 (by decide) ?_
            exact ih_59 l2 (1 : Int32) (l4 + (1 : Int32)) v _ _ ls hP hD hS (lv_sub hl [2, 3, 1, 0] rfl) hf
  unfold f_Md_blur at hf
  refine lv_iload_n hx hb d_Md_blur_0 rfl (lv_at hl 1 rfl) ?_
  refine lv_i2l (v := l1.toInt64) hx hb d_Md_blur_1 rfl ?_
  refine lv_lconst (v := (1 : Int64)) hx hb d_Md_blur_2 (by decide) ?_
  refine lv_ldc2 (v := (5 : Int64)) hx hb hown (hts _ k_907) d_Md_blur_3 ?_
  obtain ⟨q_6, hc_6, hf⟩ := oc_e hf
  refine kcS (cc := c_Md_blur) (own := "FloodDiaryModel") (index := 35) (wc := ([] : va_W)) (wr := W_Md G a v) (wc' := ([] : va_W)) (ws' := W_Md G a v) hx hb hml hown hts hK hN hA hP hD hS (t_Md_in l G l1.toInt64 (1 : Int64) (5 : Int64) q_6 hc_6) m_Md_in k_818 ⟨Nat.le_of_ble_eq_true rfl, Nat.le_of_ble_eq_true rfl⟩ (List.Perm.refl _) (List.Perm.refl _) rfl rfl (Nat.le_of_ble_eq_true rfl) hl.1 d_Md_blur_6 ⟨Nat.zero_le _, Nat.zero_le _⟩ (fun H locs hP hD hS => ?_)
  refine lv_if_ne (tgt := 15) hx hb d_Md_blur_9 (by decide) (fun c_9 => ?_) (fun c_9 => ?_)
  · replace hf := ob_ef c_9 hf
    refine lv_aload_n hx hb d_Md_blur_15 rfl (lv_at hl 0 rfl) ?_
    refine va_get (D := G.1) (ci := 9) (v := .ref (a 1)) (C := R_Md) (T := T_Md) (N := 9) hx hb hts in_Md hown hK hP 0 rfl rfl 0 (by decide) (hts _ k_753) (fun _ h9 => h9) rfl d_Md_blur_16 ?_
    refine lv_bipush (v := (57 : Int32)) hx hb d_Md_blur_19 (by decide) ?_
    obtain ⟨g_21, hf⟩ := og_e hf
    refine va_iald hx hb hK hP 1 0 rfl rfl g_21 d_Md_blur_21 ?_
    refine lv_iload_n hx hb d_Md_blur_22 rfl (lv_at hl 1 rfl) ?_
    refine lv_isub hx hb d_Md_blur_23 ?_
    refine lv_istore_n (lv' := [(2, .int ((v.1 (57 : Int32).toNatClampNeg) - l1)), (0, .ref (a 0)), (1, .int l1)]) hx hb d_Md_blur_24 rfl hl (by decide) rfl (fun ls hl => ?_)
    refine lv_aload_n hx hb d_Md_blur_25 rfl (lv_at hl 1 rfl) ?_
    refine va_get (D := G.1) (ci := 9) (v := .ref (a 1)) (C := R_Md) (T := T_Md) (N := 9) hx hb hts in_Md hown hK hP 0 rfl rfl 0 (by decide) (hts _ k_753) (fun _ h9 => h9) rfl d_Md_blur_26 ?_
    refine lv_bipush (v := (66 : Int32)) hx hb d_Md_blur_29 (by decide) ?_
    obtain ⟨g_31, hf⟩ := og_e hf
    refine va_iald hx hb hK hP 1 0 rfl rfl g_31 d_Md_blur_31 ?_
    refine lv_iconst (v := (1 : Int32)) hx hb d_Md_blur_32 (by decide) ?_
    refine lv_icmp_ne (tgt := 54) hx hb d_Md_blur_33 (by decide) (fun c_33 => ?_) (fun c_33 => ?_)
    · replace hf := ob_ef c_33 hf
      refine lv_iconst (v := (0 : Int32)) hx hb d_Md_blur_54 (by decide) ?_
      refine lv_istore_n (lv' := [(3, .int (0 : Int32)), (2, .int ((v.1 (57 : Int32).toNatClampNeg) - l1)), (0, .ref (a 0)), (1, .int l1)]) hx hb d_Md_blur_55 rfl hl (by decide) rfl (fun ls hl => ?_)
      refine lv_iconst (v := (0 : Int32)) hx hb d_Md_blur_56 (by decide) ?_
      refine lv_istore (lv' := [(4, .int (0 : Int32)), (3, .int (0 : Int32)), (2, .int ((v.1 (57 : Int32).toNatClampNeg) - l1)), (0, .ref (a 0)), (1, .int l1)]) hx hb d_Md_blur_57 hl (by decide) rfl (fun ls hl => ?_)
      exact J_59 FU ((v.1 (57 : Int32).toNatClampNeg) - l1) (0 : Int32) (0 : Int32) v _ _ ls hP hD hS (lv_sub hl [3, 2, 1, 0] rfl) hf
    · replace hf := ob_et c_33 hf
      refine lv_aload_n hx hb d_Md_blur_36 rfl (lv_at hl 1 rfl) ?_
      refine va_get (D := G.1) (ci := 9) (v := .ref (a 1)) (C := R_Md) (T := T_Md) (N := 9) hx hb hts in_Md hown hK hP 0 rfl rfl 0 (by decide) (hts _ k_753) (fun _ h9 => h9) rfl d_Md_blur_37 ?_
      refine lv_bipush (v := (60 : Int32)) hx hb d_Md_blur_40 (by decide) ?_
      obtain ⟨g_42, hf⟩ := og_e hf
      refine va_iald hx hb hK hP 1 0 rfl rfl g_42 d_Md_blur_42 ?_
      refine lv_if_ne (tgt := 54) hx hb d_Md_blur_43 (by decide) (fun c_43 => ?_) (fun c_43 => ?_)
      · replace hf := ob_ef c_43 hf
        refine lv_iconst (v := (0 : Int32)) hx hb d_Md_blur_54 (by decide) ?_
        refine lv_istore_n (lv' := [(3, .int (0 : Int32)), (2, .int ((v.1 (57 : Int32).toNatClampNeg) - l1)), (0, .ref (a 0)), (1, .int l1)]) hx hb d_Md_blur_55 rfl hl (by decide) rfl (fun ls hl => ?_)
        refine lv_iconst (v := (0 : Int32)) hx hb d_Md_blur_56 (by decide) ?_
        refine lv_istore (lv' := [(4, .int (0 : Int32)), (3, .int (0 : Int32)), (2, .int ((v.1 (57 : Int32).toNatClampNeg) - l1)), (0, .ref (a 0)), (1, .int l1)]) hx hb d_Md_blur_57 hl (by decide) rfl (fun ls hl => ?_)
        exact J_59 FU ((v.1 (57 : Int32).toNatClampNeg) - l1) (0 : Int32) (0 : Int32) v _ _ ls hP hD hS (lv_sub hl [3, 2, 1, 0] rfl) hf
      · replace hf := ob_et c_43 hf
        refine lv_iload_n hx hb d_Md_blur_46 rfl (lv_at hl 0 rfl) ?_
        refine lv_if_lt (tgt := 54) hx hb d_Md_blur_47 (by decide) (fun c_47 => ?_) (fun c_47 => ?_)
        · replace hf := ob_et c_47 hf
          refine lv_iconst (v := (0 : Int32)) hx hb d_Md_blur_54 (by decide) ?_
          refine lv_istore_n (lv' := [(3, .int (0 : Int32)), (2, .int ((v.1 (57 : Int32).toNatClampNeg) - l1)), (0, .ref (a 0)), (1, .int l1)]) hx hb d_Md_blur_55 rfl hl (by decide) rfl (fun ls hl => ?_)
          refine lv_iconst (v := (0 : Int32)) hx hb d_Md_blur_56 (by decide) ?_
          refine lv_istore (lv' := [(4, .int (0 : Int32)), (3, .int (0 : Int32)), (2, .int ((v.1 (57 : Int32).toNatClampNeg) - l1)), (0, .ref (a 0)), (1, .int l1)]) hx hb d_Md_blur_57 hl (by decide) rfl (fun ls hl => ?_)
          exact J_59 FU ((v.1 (57 : Int32).toNatClampNeg) - l1) (0 : Int32) (0 : Int32) v _ _ ls hP hD hS (lv_sub hl [3, 2, 1, 0] rfl) hf
        · replace hf := ob_ef c_47 hf
          refine lv_iconst (v := (1 : Int32)) hx hb d_Md_blur_50 (by decide) ?_
          refine lv_goto (tgt := 55) hx hb d_Md_blur_51 (by decide) ?_
          refine lv_istore_n (lv' := [(3, .int (1 : Int32)), (2, .int ((v.1 (57 : Int32).toNatClampNeg) - l1)), (0, .ref (a 0)), (1, .int l1)]) hx hb d_Md_blur_55 rfl hl (by decide) rfl (fun ls hl => ?_)
          refine lv_iconst (v := (0 : Int32)) hx hb d_Md_blur_56 (by decide) ?_
          refine lv_istore (lv' := [(4, .int (0 : Int32)), (3, .int (1 : Int32)), (2, .int ((v.1 (57 : Int32).toNatClampNeg) - l1)), (0, .ref (a 0)), (1, .int l1)]) hx hb d_Md_blur_57 hl (by decide) rfl (fun ls hl => ?_)
          exact J_59 FU ((v.1 (57 : Int32).toNatClampNeg) - l1) (1 : Int32) (0 : Int32) v _ _ ls hP hD hS (lv_sub hl [3, 2, 1, 0] rfl) hf
  · replace hf := ob_et c_9 hf
    refine lv_bipush (v := (-2 : Int32)) hx hb d_Md_blur_12 (by decide) ?_
    cases hf
    exact kI hx hb hr hlk hP hD hS d_Md_blur_14
set_option maxHeartbeats 4000000 in
set_option maxRecDepth 100000 in
theorem t_Md_mend (l : Launch) (G : GG) (a : Nat → Nat) (l1 : Int32) (v : V_Md) (q : Int32 × V_Md) (hf : f_Md_mend l1 v = some q) : MI l G y_Md_mend c_Md_mend 2 (some .int) (rmk 6 139) (W_Md G a v) [.ref (a 0), .int l1] (W_Md G a q.2) (q.1) := by
  refine ofI "FloodDiaryModel" (by decide +kernel) rfl (Nat.le_of_ble_eq_true rfl) (fun p e s m args below meth c A ls hx hb hr hml hown hts hlk hK hN hA hP hD hS hl => ?_)
  have hl : lv_has ls 2 [(0, .ref (a 0)), (1, .int l1)] := hl
  unfold f_Md_mend at hf
  refine lv_iload_n hx hb d_Md_mend_0 rfl (lv_at hl 1 rfl) ?_
  refine lv_i2l (v := l1.toInt64) hx hb d_Md_mend_1 rfl ?_
  refine lv_lconst (v := (1 : Int64)) hx hb d_Md_mend_2 (by decide) ?_
  refine lv_ldc2 (v := (999 : Int64)) hx hb hown (hts _ k_825) d_Md_mend_3 ?_
  obtain ⟨q_6, hc_6, hf⟩ := oc_e hf
  refine kcS (cc := c_Md_mend) (own := "FloodDiaryModel") (index := 35) (wc := ([] : va_W)) (wr := W_Md G a v) (wc' := ([] : va_W)) (ws' := W_Md G a v) hx hb hml hown hts hK hN hA hP hD hS (t_Md_in l G l1.toInt64 (1 : Int64) (999 : Int64) q_6 hc_6) m_Md_in k_818 ⟨Nat.le_of_ble_eq_true rfl, Nat.le_of_ble_eq_true rfl⟩ (List.Perm.refl _) (List.Perm.refl _) rfl rfl (Nat.le_of_ble_eq_true rfl) hl.1 d_Md_mend_6 ⟨Nat.zero_le _, Nat.zero_le _⟩ (fun H locs hP hD hS => ?_)
  refine lv_if_ne (tgt := 15) hx hb d_Md_mend_9 (by decide) (fun c_9 => ?_) (fun c_9 => ?_)
  · replace hf := ob_ef c_9 hf
    refine lv_aload_n hx hb d_Md_mend_15 rfl (lv_at hl 0 rfl) ?_
    refine va_get (D := G.1) (ci := 9) (v := .ref (a 1)) (C := R_Md) (T := T_Md) (N := 9) hx hb hts in_Md hown hK hP 0 rfl rfl 0 (by decide) (hts _ k_753) (fun _ h9 => h9) rfl d_Md_mend_16 ?_
    refine lv_bipush (v := (59 : Int32)) hx hb d_Md_mend_19 (by decide) ?_
    obtain ⟨g_21, hf⟩ := og_e hf
    refine va_iald hx hb hK hP 1 0 rfl rfl g_21 d_Md_mend_21 ?_
    refine lv_if_ne (tgt := 28) hx hb d_Md_mend_22 (by decide) (fun c_22 => ?_) (fun c_22 => ?_)
    · replace hf := ob_ef c_22 hf
      refine lv_aload_n hx hb d_Md_mend_28 rfl (lv_at hl 0 rfl) ?_
      obtain ⟨q_29, hc_29, hf⟩ := oc_e hf
      refine kcVv (cc := c_Md_mend) (own := "FloodDiaryModel") (index := 93) (wc := W_Md G a v) (wr := ([] : va_W)) (wc' := W_Md G a q_29) (ws' := W_Md G a q_29) hx hb hml hown hts hK hN hA hP hD hS (t_Md_record l G a v q_29 hc_29) m_Md_record k_789 ⟨Nat.le_of_ble_eq_true rfl, Nat.le_of_ble_eq_true rfl⟩ (pm_0 (W_Md G a v)) (pm_0 (W_Md G a q_29)).symm 9 0 rfl rfl rfl rfl rfl (Nat.le_of_ble_eq_true rfl) hl.1 d_Md_mend_29 ⟨Nat.zero_le _, Nat.zero_le _⟩ (fun H locs hP hD hS => ?_)
      refine lv_aload_n hx hb d_Md_mend_32 rfl (lv_at hl 0 rfl) ?_
      refine va_get (D := G.1) (ci := 9) (v := .ref (a 1)) (C := R_Md) (T := T_Md) (N := 9) hx hb hts in_Md hown hK hP 0 rfl rfl 0 (by decide) (hts _ k_753) (fun _ h9 => h9) rfl d_Md_mend_33 ?_
      refine lv_iload_n hx hb d_Md_mend_36 rfl (lv_at hl 1 rfl) ?_
      obtain ⟨q_37, hc_37, hf⟩ := oc_e hf
      refine kcS (cc := c_Md_mend) (own := "FloodDiaryModel") (index := 154) (wc := W_Row G 2400 (a 1) q_29.1) (wr := O_Md G a q_29 ++ (W_Row G 2400 (a 2) q_29.2.1 ++ (W_Row G 14400 (a 3) q_29.2.2.1 ++ (W_Row G 4800 (a 4) q_29.2.2.2.2.1 ++ (W_RowZ G 2 (a 5) q_29.2.2.2.2.2.1 ++ (W_Row G 80 (a 6) q_29.2.2.2.2.2.2.1 ++ (([] : va_W)))))))) (wc' := W_Row G 2400 (a 1) q_37.2) (ws' := W_Md G a (q_37.2, q_29.2.1, q_29.2.2.1, q_29.2.2.2.1, q_29.2.2.2.2.1, q_29.2.2.2.2.2.1, q_29.2.2.2.2.2.2.1, q_29.2.2.2.2.2.2.2.1, q_29.2.2.2.2.2.2.2.2)) hx hb hml hown hts hK hN hA hP hD hS (t_Md_mendOn l G (a 1) l1 q_29.1 q_37 hc_37) m_Md_mendOn k_912 ⟨Nat.le_of_ble_eq_true rfl, Nat.le_of_ble_eq_true rfl⟩ (pm_12 (O_Md G a q_29) (W_Row G 2400 (a 1) q_29.1) (W_Row G 2400 (a 2) q_29.2.1) (W_Row G 14400 (a 3) q_29.2.2.1) (W_Row G 4800 (a 4) q_29.2.2.2.2.1) (W_RowZ G 2 (a 5) q_29.2.2.2.2.2.1) (W_Row G 80 (a 6) q_29.2.2.2.2.2.2.1)) (pm_12 (O_Md G a (q_37.2, q_29.2.1, q_29.2.2.1, q_29.2.2.2.1, q_29.2.2.2.2.1, q_29.2.2.2.2.2.1, q_29.2.2.2.2.2.2.1, q_29.2.2.2.2.2.2.2.1, q_29.2.2.2.2.2.2.2.2)) (W_Row G 2400 (a 1) q_37.2) (W_Row G 2400 (a 2) q_29.2.1) (W_Row G 14400 (a 3) q_29.2.2.1) (W_Row G 4800 (a 4) q_29.2.2.2.2.1) (W_RowZ G 2 (a 5) q_29.2.2.2.2.2.1) (W_Row G 80 (a 6) q_29.2.2.2.2.2.2.1)).symm rfl rfl (Nat.le_of_ble_eq_true rfl) hl.1 d_Md_mend_37 ⟨Nat.zero_le _, Nat.zero_le _⟩ (fun H locs hP hD hS => ?_)
      cases hf
      exact kI hx hb hr hlk hP hD hS d_Md_mend_40
    · replace hf := ob_et c_22 hf
      refine lv_bipush (v := (-5 : Int32)) hx hb d_Md_mend_25 (by decide) ?_
      cases hf
      exact kI hx hb hr hlk hP hD hS d_Md_mend_27
  · replace hf := ob_et c_9 hf
    refine lv_bipush (v := (-2 : Int32)) hx hb d_Md_mend_12 (by decide) ?_
    cases hf
    exact kI hx hb hr hlk hP hD hS d_Md_mend_14
set_option maxHeartbeats 4000000 in
set_option maxRecDepth 100000 in
theorem t_Md_isDirty (l : Launch) (G : GG) (a : Nat → Nat) (l1 : Int32) (v : V_Md) (q : Int32) (hf : f_Md_isDirty l1 v = some q) : MI l G y_Md_isDirty c_Md_isDirty 2 (some .boolean) (rmk 0 0) (W_Md G a v) [.ref (a 0), .int l1] (W_Md G a v) (q) := by
  refine ofI "FloodDiaryModel" (by decide +kernel) rfl (Nat.le_of_ble_eq_true rfl) (fun p e s m args below meth c A ls hx hb hr hml hown hts hlk hK hN hA hP hD hS hl => ?_)
  have hl : lv_has ls 2 [(0, .ref (a 0)), (1, .int l1)] := hl
  unfold f_Md_isDirty at hf
  refine lv_aload_n hx hb d_Md_isDirty_0 rfl (lv_at hl 0 rfl) ?_
  refine va_get (D := G.1) (ci := 9) (v := .ref (a 1)) (C := R_Md) (T := T_Md) (N := 9) hx hb hts in_Md hown hK hP 0 rfl rfl 0 (by decide) (hts _ k_753) (fun _ h9 => h9) rfl d_Md_isDirty_1 ?_
  refine lv_bipush (v := (16 : Int32)) hx hb d_Md_isDirty_4 (by decide) ?_
  refine lv_iload_n hx hb d_Md_isDirty_6 rfl (lv_at hl 1 rfl) ?_
  refine lv_iadd hx hb d_Md_isDirty_7 ?_
  obtain ⟨g_8, hf⟩ := og_e hf
  refine va_iald hx hb hK hP 1 0 rfl rfl g_8 d_Md_isDirty_8 ?_
  refine lv_iconst (v := (1 : Int32)) hx hb d_Md_isDirty_9 (by decide) ?_
  refine lv_icmp_ne (tgt := 38) hx hb d_Md_isDirty_10 (by decide) (fun c_10 => ?_) (fun c_10 => ?_)
  · replace hf := ob_ef c_10 hf
    refine lv_iconst (v := (0 : Int32)) hx hb d_Md_isDirty_38 (by decide) ?_
    cases hf
    exact kZ hx hb hr hlk hP hD hS (Or.inl rfl) d_Md_isDirty_39
  · replace hf := ob_et c_10 hf
    refine lv_aload_n hx hb d_Md_isDirty_13 rfl (lv_at hl 0 rfl) ?_
    refine va_get (D := G.1) (ci := 9) (v := .ref (a 1)) (C := R_Md) (T := T_Md) (N := 9) hx hb hts in_Md hown hK hP 0 rfl rfl 0 (by decide) (hts _ k_753) (fun _ h9 => h9) rfl d_Md_isDirty_14 ?_
    refine lv_bipush (v := (32 : Int32)) hx hb d_Md_isDirty_17 (by decide) ?_
    refine lv_iload_n hx hb d_Md_isDirty_19 rfl (lv_at hl 1 rfl) ?_
    refine lv_iadd hx hb d_Md_isDirty_20 ?_
    obtain ⟨g_21, hf⟩ := og_e hf
    refine va_iald hx hb hK hP 1 0 rfl rfl g_21 d_Md_isDirty_21 ?_
    refine lv_aload_n hx hb d_Md_isDirty_22 rfl (lv_at hl 0 rfl) ?_
    refine va_get (D := G.1) (ci := 9) (v := .ref (a 1)) (C := R_Md) (T := T_Md) (N := 9) hx hb hts in_Md hown hK hP 0 rfl rfl 0 (by decide) (hts _ k_753) (fun _ h9 => h9) rfl d_Md_isDirty_23 ?_
    refine lv_bipush (v := (8 : Int32)) hx hb d_Md_isDirty_26 (by decide) ?_
    refine lv_iload_n hx hb d_Md_isDirty_28 rfl (lv_at hl 1 rfl) ?_
    refine lv_iadd hx hb d_Md_isDirty_29 ?_
    obtain ⟨g_30, hf⟩ := og_e hf
    refine va_iald hx hb hK hP 1 0 rfl rfl g_30 d_Md_isDirty_30 ?_
    refine lv_icmp_eq (tgt := 38) hx hb d_Md_isDirty_31 (by decide) (fun c_31 => ?_) (fun c_31 => ?_)
    · replace hf := ob_et c_31 hf
      refine lv_iconst (v := (0 : Int32)) hx hb d_Md_isDirty_38 (by decide) ?_
      cases hf
      exact kZ hx hb hr hlk hP hD hS (Or.inl rfl) d_Md_isDirty_39
    · replace hf := ob_ef c_31 hf
      refine lv_iconst (v := (1 : Int32)) hx hb d_Md_isDirty_34 (by decide) ?_
      refine lv_goto (tgt := 39) hx hb d_Md_isDirty_35 (by decide) ?_
      cases hf
      exact kZ hx hb hr hlk hP hD hS (Or.inr rfl) d_Md_isDirty_39
set_option maxHeartbeats 4000000 in
set_option maxRecDepth 100000 in
theorem t_Md_ofPage (l : Launch) (G : GG) (a : Nat → Nat) (l1 : Int32) (l2 : Int32) (v : V_Md) (q : Int32) (hf : f_Md_ofPage l1 l2 v = some q) : MI l G y_Md_ofPage c_Md_ofPage 4 (some .int) (rmk 3 65) (W_Md G a v) [.ref (a 0), .int l1, .int l2] (W_Md G a v) (q) := by
  refine ofI "FloodDiaryModel" (by decide +kernel) rfl (Nat.le_of_ble_eq_true rfl) (fun p e s m args below meth c A ls hx hb hr hml hown hts hlk hK hN hA hP hD hS hl => ?_)
  have hl : lv_has ls 4 [(0, .ref (a 0)), (1, .int l1), (2, .int l2)] := hl
  have J_27 : ∀ (l1 : Int32) (l2 : Int32) (s0 : Int32) (v : V_Md) (H : Heap) (locs : List Loc) (ls : Array Slot), va_P G.1 vwCl (W_Md G a v) H → va_D A (W_Md G a v) → va_S A s.heap H locs → lv_has ls 4 [(0, .ref (a 0)), (1, .int l1), (2, .int l2)] → f_Md_ofPage_27 l1 l2 s0 v = some q → W p l e (rmk 3 65) s m args below meth c H locs 0 0 (MQ below (qI G A (W_Md G a v) (q)) args s 0 0 A) (F0 m 27 ls [.int s0]) := by
    intro l1 l2 s0 v H locs ls hP hD hS hl hf
    unfold f_Md_ofPage_27 at hf
    refine lv_istore_n (lv' := [(3, .int s0), (0, .ref (a 0)), (1, .int l1), (2, .int l2)]) hx hb d_Md_ofPage_27 rfl hl (by decide) rfl (fun ls hl => ?_)
    refine lv_iload_n hx hb d_Md_ofPage_28 rfl (lv_at hl 3 rfl) ?_
    by_cases e_29_0 : l2 = (0 : Int32)
    · replace hf := ob_et e_29_0 hf
      refine lv_tableIn (off := 43) (tgt := 72) hx hb d_Md_ofPage_29 (by rw [e_29_0]; decide) (by rw [e_29_0]; decide) (by rw [e_29_0]; decide) (by decide) ?_
      refine lv_aload_n hx hb d_Md_ofPage_72 rfl (lv_at hl 1 rfl) ?_
      refine va_get (D := G.1) (ci := 9) (v := .ref (a 1)) (C := R_Md) (T := T_Md) (N := 9) hx hb hts in_Md hown hK hP 0 rfl rfl 0 (by decide) (hts _ k_753) (fun _ h9 => h9) rfl d_Md_ofPage_73 ?_
      refine lv_iconst (v := (0 : Int32)) hx hb d_Md_ofPage_76 (by decide) ?_
      refine lv_iload_n hx hb d_Md_ofPage_77 rfl (lv_at hl 2 rfl) ?_
      refine lv_iadd hx hb d_Md_ofPage_78 ?_
      obtain ⟨g_79, hf⟩ := og_e hf
      refine va_iald hx hb hK hP 1 0 rfl rfl g_79 d_Md_ofPage_79 ?_
      cases hf
      exact kI hx hb hr hlk hP hD hS d_Md_ofPage_80
    · replace hf := ob_ef e_29_0 hf
      by_cases e_29_1 : l2 = (1 : Int32)
      · replace hf := ob_et e_29_1 hf
        refine lv_tableIn (off := 52) (tgt := 81) hx hb d_Md_ofPage_29 (by rw [e_29_1]; decide) (by rw [e_29_1]; decide) (by rw [e_29_1]; decide) (by decide) ?_
        refine lv_aload_n hx hb d_Md_ofPage_81 rfl (lv_at hl 1 rfl) ?_
        refine va_get (D := G.1) (ci := 9) (v := .ref (a 1)) (C := R_Md) (T := T_Md) (N := 9) hx hb hts in_Md hown hK hP 0 rfl rfl 0 (by decide) (hts _ k_753) (fun _ h9 => h9) rfl d_Md_ofPage_82 ?_
        refine lv_bipush (v := (8 : Int32)) hx hb d_Md_ofPage_85 (by decide) ?_
        refine lv_iload_n hx hb d_Md_ofPage_87 rfl (lv_at hl 2 rfl) ?_
        refine lv_iadd hx hb d_Md_ofPage_88 ?_
        obtain ⟨g_89, hf⟩ := og_e hf
        refine va_iald hx hb hK hP 1 0 rfl rfl g_89 d_Md_ofPage_89 ?_
        cases hf
        exact kI hx hb hr hlk hP hD hS d_Md_ofPage_90
      · replace hf := ob_ef e_29_1 hf
        by_cases e_29_2 : l2 = (2 : Int32)
        · replace hf := ob_et e_29_2 hf
          refine lv_tableIn (off := 62) (tgt := 91) hx hb d_Md_ofPage_29 (by rw [e_29_2]; decide) (by rw [e_29_2]; decide) (by rw [e_29_2]; decide) (by decide) ?_
          refine lv_aload_n hx hb d_Md_ofPage_91 rfl (lv_at hl 1 rfl) ?_
          refine va_get (D := G.1) (ci := 9) (v := .ref (a 1)) (C := R_Md) (T := T_Md) (N := 9) hx hb hts in_Md hown hK hP 0 rfl rfl 0 (by decide) (hts _ k_753) (fun _ h9 => h9) rfl d_Md_ofPage_92 ?_
          refine lv_bipush (v := (16 : Int32)) hx hb d_Md_ofPage_95 (by decide) ?_
          refine lv_iload_n hx hb d_Md_ofPage_97 rfl (lv_at hl 2 rfl) ?_
          refine lv_iadd hx hb d_Md_ofPage_98 ?_
          obtain ⟨g_99, hf⟩ := og_e hf
          refine va_iald hx hb hK hP 1 0 rfl rfl g_99 d_Md_ofPage_99 ?_
          cases hf
          exact kI hx hb hr hlk hP hD hS d_Md_ofPage_100
        · replace hf := ob_ef e_29_2 hf
          by_cases e_29_3 : l2 = (3 : Int32)
          · replace hf := ob_et e_29_3 hf
            refine lv_tableIn (off := 72) (tgt := 101) hx hb d_Md_ofPage_29 (by rw [e_29_3]; decide) (by rw [e_29_3]; decide) (by rw [e_29_3]; decide) (by decide) ?_
            refine lv_iload_n hx hb d_Md_ofPage_101 rfl (lv_at hl 0 rfl) ?_
            refine lv_if_eq (tgt := 117) hx hb d_Md_ofPage_102 (by decide) (fun c_102 => ?_) (fun c_102 => ?_)
            · replace hf := ob_et c_102 hf
              refine lv_bipush (v := (-6 : Int32)) hx hb d_Md_ofPage_117 (by decide) ?_
              cases hf
              exact kI hx hb hr hlk hP hD hS d_Md_ofPage_119
            · replace hf := ob_ef c_102 hf
              refine lv_aload_n hx hb d_Md_ofPage_105 rfl (lv_at hl 1 rfl) ?_
              refine va_get (D := G.1) (ci := 9) (v := .ref (a 1)) (C := R_Md) (T := T_Md) (N := 9) hx hb hts in_Md hown hK hP 0 rfl rfl 0 (by decide) (hts _ k_753) (fun _ h9 => h9) rfl d_Md_ofPage_106 ?_
              refine lv_bipush (v := (24 : Int32)) hx hb d_Md_ofPage_109 (by decide) ?_
              refine lv_iload_n hx hb d_Md_ofPage_111 rfl (lv_at hl 2 rfl) ?_
              refine lv_iadd hx hb d_Md_ofPage_112 ?_
              obtain ⟨g_113, hf⟩ := og_e hf
              refine va_iald hx hb hK hP 1 0 rfl rfl g_113 d_Md_ofPage_113 ?_
              refine lv_goto (tgt := 119) hx hb d_Md_ofPage_114 (by decide) ?_
              cases hf
              exact kI hx hb hr hlk hP hD hS d_Md_ofPage_119
          · replace hf := ob_ef e_29_3 hf
            by_cases e_29_4 : l2 = (4 : Int32)
            · replace hf := ob_et e_29_4 hf
              refine lv_tableIn (off := 91) (tgt := 120) hx hb d_Md_ofPage_29 (by rw [e_29_4]; decide) (by rw [e_29_4]; decide) (by rw [e_29_4]; decide) (by decide) ?_
              refine lv_iload_n hx hb d_Md_ofPage_120 rfl (lv_at hl 0 rfl) ?_
              refine lv_if_eq (tgt := 136) hx hb d_Md_ofPage_121 (by decide) (fun c_121 => ?_) (fun c_121 => ?_)
              · replace hf := ob_et c_121 hf
                refine lv_bipush (v := (-6 : Int32)) hx hb d_Md_ofPage_136 (by decide) ?_
                cases hf
                exact kI hx hb hr hlk hP hD hS d_Md_ofPage_138
              · replace hf := ob_ef c_121 hf
                refine lv_aload_n hx hb d_Md_ofPage_124 rfl (lv_at hl 1 rfl) ?_
                refine va_get (D := G.1) (ci := 9) (v := .ref (a 1)) (C := R_Md) (T := T_Md) (N := 9) hx hb hts in_Md hown hK hP 0 rfl rfl 0 (by decide) (hts _ k_753) (fun _ h9 => h9) rfl d_Md_ofPage_125 ?_
                refine lv_bipush (v := (32 : Int32)) hx hb d_Md_ofPage_128 (by decide) ?_
                refine lv_iload_n hx hb d_Md_ofPage_130 rfl (lv_at hl 2 rfl) ?_
                refine lv_iadd hx hb d_Md_ofPage_131 ?_
                obtain ⟨g_132, hf⟩ := og_e hf
                refine va_iald hx hb hK hP 1 0 rfl rfl g_132 d_Md_ofPage_132 ?_
                refine lv_goto (tgt := 138) hx hb d_Md_ofPage_133 (by decide) ?_
                cases hf
                exact kI hx hb hr hlk hP hD hS d_Md_ofPage_138
            · replace hf := ob_ef e_29_4 hf
              by_cases e_29_5 : l2 = (5 : Int32)
              · replace hf := ob_et e_29_5 hf
                refine lv_tableIn (off := 110) (tgt := 139) hx hb d_Md_ofPage_29 (by rw [e_29_5]; decide) (by rw [e_29_5]; decide) (by rw [e_29_5]; decide) (by decide) ?_
                refine lv_aload_n hx hb d_Md_ofPage_139 rfl (lv_at hl 1 rfl) ?_
                refine lv_iload_n hx hb d_Md_ofPage_140 rfl (lv_at hl 2 rfl) ?_
                obtain ⟨q_141, hc_141, hf⟩ := oc_e hf
                refine kcV (cc := c_Md_ofPage) (own := "FloodDiaryModel") (index := 157) (wc := W_Md G a v) (wr := ([] : va_W)) (wc' := W_Md G a v) (ws' := W_Md G a v) hx hb hml hown hts hK hN hA hP hD hS (t_Md_isDirty l G a l1 v q_141 hc_141) m_Md_isDirty k_931 ⟨Nat.le_of_ble_eq_true rfl, Nat.le_of_ble_eq_true rfl⟩ (pm_0 (W_Md G a v)) (pm_0 (W_Md G a v)).symm 9 0 rfl rfl rfl rfl rfl (Nat.le_of_ble_eq_true rfl) hl.1 d_Md_ofPage_141 ⟨Nat.zero_le _, Nat.zero_le _⟩ (fun H locs hP hD hS => ?_)
                refine lv_if_eq (tgt := 151) hx hb d_Md_ofPage_144 (by decide) (fun c_144 => ?_) (fun c_144 => ?_)
                · replace hf := ob_et c_144 hf
                  refine lv_iconst (v := (0 : Int32)) hx hb d_Md_ofPage_151 (by decide) ?_
                  cases hf
                  exact kI hx hb hr hlk hP hD hS d_Md_ofPage_152
                · replace hf := ob_ef c_144 hf
                  refine lv_iconst (v := (1 : Int32)) hx hb d_Md_ofPage_147 (by decide) ?_
                  refine lv_goto (tgt := 152) hx hb d_Md_ofPage_148 (by decide) ?_
                  cases hf
                  exact kI hx hb hr hlk hP hD hS d_Md_ofPage_152
              · replace hf := ob_ef e_29_5 hf
                by_cases e_29_6 : l2 = (6 : Int32)
                · replace hf := ob_et e_29_6 hf
                  refine lv_tableIn (off := 124) (tgt := 153) hx hb d_Md_ofPage_29 (by rw [e_29_6]; decide) (by rw [e_29_6]; decide) (by rw [e_29_6]; decide) (by decide) ?_
                  refine lv_aload_n hx hb d_Md_ofPage_153 rfl (lv_at hl 1 rfl) ?_
                  refine va_get (D := G.1) (ci := 9) (v := .ref (a 1)) (C := R_Md) (T := T_Md) (N := 9) hx hb hts in_Md hown hK hP 0 rfl rfl 0 (by decide) (hts _ k_753) (fun _ h9 => h9) rfl d_Md_ofPage_154 ?_
                  refine lv_bipush (v := (59 : Int32)) hx hb d_Md_ofPage_157 (by decide) ?_
                  obtain ⟨g_159, hf⟩ := og_e hf
                  refine va_iald hx hb hK hP 1 0 rfl rfl g_159 d_Md_ofPage_159 ?_
                  refine lv_iconst (v := (1 : Int32)) hx hb d_Md_ofPage_160 (by decide) ?_
                  refine lv_icmp_ne (tgt := 169) hx hb d_Md_ofPage_161 (by decide) (fun c_161 => ?_) (fun c_161 => ?_)
                  · replace hf := ob_ef c_161 hf
                    refine lv_aload_n hx hb d_Md_ofPage_169 rfl (lv_at hl 1 rfl) ?_
                    refine va_get (D := G.1) (ci := 9) (v := .ref (a 1)) (C := R_Md) (T := T_Md) (N := 9) hx hb hts in_Md hown hK hP 0 rfl rfl 0 (by decide) (hts _ k_753) (fun _ h9 => h9) rfl d_Md_ofPage_170 ?_
                    refine lv_iload_n hx hb d_Md_ofPage_173 rfl (lv_at hl 2 rfl) ?_
                    obtain ⟨q_174, hc_174, hf⟩ := oc_e hf
                    refine kcS (cc := c_Md_ofPage) (own := "FloodDiaryModel") (index := 109) (wc := W_Row G 2400 (a 1) v.1) (wr := O_Md G a v ++ (W_Row G 2400 (a 2) v.2.1 ++ (W_Row G 14400 (a 3) v.2.2.1 ++ (W_Row G 4800 (a 4) v.2.2.2.2.1 ++ (W_RowZ G 2 (a 5) v.2.2.2.2.2.1 ++ (W_Row G 80 (a 6) v.2.2.2.2.2.2.1 ++ (([] : va_W)))))))) (wc' := W_Row G 2400 (a 1) v.1) (ws' := W_Md G a v) hx hb hml hown hts hK hN hA hP hD hS (t_Md_holder l G (a 1) l1 v.1 q_174 hc_174) m_Md_holder k_826 ⟨Nat.le_of_ble_eq_true rfl, Nat.le_of_ble_eq_true rfl⟩ (pm_12 (O_Md G a v) (W_Row G 2400 (a 1) v.1) (W_Row G 2400 (a 2) v.2.1) (W_Row G 14400 (a 3) v.2.2.1) (W_Row G 4800 (a 4) v.2.2.2.2.1) (W_RowZ G 2 (a 5) v.2.2.2.2.2.1) (W_Row G 80 (a 6) v.2.2.2.2.2.2.1)) (pm_12 (O_Md G a v) (W_Row G 2400 (a 1) v.1) (W_Row G 2400 (a 2) v.2.1) (W_Row G 14400 (a 3) v.2.2.1) (W_Row G 4800 (a 4) v.2.2.2.2.1) (W_RowZ G 2 (a 5) v.2.2.2.2.2.1) (W_Row G 80 (a 6) v.2.2.2.2.2.2.1)).symm rfl rfl (Nat.le_of_ble_eq_true rfl) hl.1 d_Md_ofPage_174 ⟨Nat.zero_le _, Nat.zero_le _⟩ (fun H locs hP hD hS => ?_)
                    cases hf
                    exact kI hx hb hr hlk hP hD hS d_Md_ofPage_177
                  · replace hf := ob_et c_161 hf
                    refine lv_bipush (v := (-6 : Int32)) hx hb d_Md_ofPage_164 (by decide) ?_
                    refine lv_goto (tgt := 177) hx hb d_Md_ofPage_166 (by decide) ?_
                    cases hf
                    exact kI hx hb hr hlk hP hD hS d_Md_ofPage_177
                · replace hf := ob_ef e_29_6 hf
                  have z_29_0 := lv_neT e_29_0 (show (0 : Int32).toInt = 0 by decide)
                  have z_29_1 := lv_neT e_29_1 (show (1 : Int32).toInt = 1 by decide)
                  have z_29_2 := lv_neT e_29_2 (show (2 : Int32).toInt = 2 by decide)
                  have z_29_3 := lv_neT e_29_3 (show (3 : Int32).toInt = 3 by decide)
                  have z_29_4 := lv_neT e_29_4 (show (4 : Int32).toInt = 4 by decide)
                  have z_29_5 := lv_neT e_29_5 (show (5 : Int32).toInt = 5 by decide)
                  have z_29_6 := lv_neT e_29_6 (show (6 : Int32).toInt = 6 by decide)
                  refine lv_tableOut (tgt := 178) hx hb d_Md_ofPage_29 (by omega) (by decide) ?_
                  refine lv_bipush (v := (-2 : Int32)) hx hb d_Md_ofPage_178 (by decide) ?_
                  cases hf
                  exact kI hx hb hr hlk hP hD hS d_Md_ofPage_180
  unfold f_Md_ofPage at hf
  refine lv_iload_n hx hb d_Md_ofPage_0 rfl (lv_at hl 1 rfl) ?_
  obtain ⟨q_1, hc_1, hf⟩ := oc_e hf
  refine kcS (cc := c_Md_ofPage) (own := "FloodDiaryModel") (index := 103) (wc := ([] : va_W)) (wr := W_Md G a v) (wc' := ([] : va_W)) (ws' := W_Md G a v) hx hb hml hown hts hK hN hA hP hD hS (t_Md_isPage l G l1 q_1 hc_1) m_Md_isPage k_821 ⟨Nat.le_of_ble_eq_true rfl, Nat.le_of_ble_eq_true rfl⟩ (List.Perm.refl _) (List.Perm.refl _) rfl rfl (Nat.le_of_ble_eq_true rfl) hl.1 d_Md_ofPage_1 ⟨Nat.zero_le _, Nat.zero_le _⟩ (fun H locs hP hD hS => ?_)
  refine lv_if_ne (tgt := 9) hx hb d_Md_ofPage_4 (by decide) (fun c_4 => ?_) (fun c_4 => ?_)
  · replace hf := ob_ef c_4 hf
    refine lv_aload_n hx hb d_Md_ofPage_9 rfl (lv_at hl 0 rfl) ?_
    refine va_get (D := G.1) (ci := 9) (v := .ref (a 1)) (C := R_Md) (T := T_Md) (N := 9) hx hb hts in_Md hown hK hP 0 rfl rfl 0 (by decide) (hts _ k_753) (fun _ h9 => h9) rfl d_Md_ofPage_10 ?_
    refine lv_bipush (v := (16 : Int32)) hx hb d_Md_ofPage_13 (by decide) ?_
    refine lv_iload_n hx hb d_Md_ofPage_15 rfl (lv_at hl 1 rfl) ?_
    refine lv_iadd hx hb d_Md_ofPage_16 ?_
    obtain ⟨g_17, hf⟩ := og_e hf
    refine va_iald hx hb hK hP 1 0 rfl rfl g_17 d_Md_ofPage_17 ?_
    refine lv_iconst (v := (1 : Int32)) hx hb d_Md_ofPage_18 (by decide) ?_
    refine lv_icmp_ne (tgt := 26) hx hb d_Md_ofPage_19 (by decide) (fun c_19 => ?_) (fun c_19 => ?_)
    · replace hf := ob_ef c_19 hf
      refine lv_iconst (v := (0 : Int32)) hx hb d_Md_ofPage_26 (by decide) ?_
      exact J_27 l1 l2 (0 : Int32) v _ _ ls hP hD hS (lv_sub hl [0, 1, 2] rfl) hf
    · replace hf := ob_et c_19 hf
      refine lv_iconst (v := (1 : Int32)) hx hb d_Md_ofPage_22 (by decide) ?_
      refine lv_goto (tgt := 27) hx hb d_Md_ofPage_23 (by decide) ?_
      exact J_27 l1 l2 (1 : Int32) v _ _ ls hP hD hS (lv_sub hl [0, 1, 2] rfl) hf
  · replace hf := ob_et c_4 hf
    refine lv_iconst (v := (-1 : Int32)) hx hb d_Md_ofPage_7 (by decide) ?_
    cases hf
    exact kI hx hb hr hlk hP hD hS d_Md_ofPage_8
set_option maxHeartbeats 4000000 in
set_option maxRecDepth 100000 in
theorem t_Md_ofWork (l : Launch) (G : GG) (a : Nat → Nat) (l1 : Int32) (l2 : Int32) (v : V_Md) (q : Int32) (hf : f_Md_ofWork l1 l2 v = some q) : MI l G y_Md_ofWork c_Md_ofWork 6 (some .int) (rmk 3 64) (W_Md G a v) [.ref (a 0), .int l1, .int l2] (W_Md G a v) (q) := by
  refine ofI "FloodDiaryModel" (by decide +kernel) rfl (Nat.le_of_ble_eq_true rfl) (fun p e s m args below meth c A ls hx hb hr hml hown hts hlk hK hN hA hP hD hS hl => ?_)
  have hl : lv_has ls 6 [(0, .ref (a 0)), (1, .int l1), (2, .int l2)] := hl
  have J_93 : ∀ (n_93 : Nat) (l1 : Int32) (l4 : Int32) (l5 : Int32) (v : V_Md) (H : Heap) (locs : List Loc) (ls : Array Slot), va_P G.1 vwCl (W_Md G a v) H → va_D A (W_Md G a v) → va_S A s.heap H locs → lv_has ls 6 [(0, .ref (a 0)), (1, .int l1), (4, .int l4), (5, .int l5)] → f_Md_ofWork_93 n_93 l1 l4 l5 v = some q → W p l e (rmk 3 64) s m args below meth c H locs 0 0 (MQ below (qI G A (W_Md G a v) (q)) args s 0 0 A) (F0 m 93 ls []) := by
    intro n_93
    induction n_93 with
    | zero => intro l1 l4 l5 v H locs ls hP hD hS hl hf; exact absurd hf (by unfold f_Md_ofWork_93; exact fun z => by cases z)
    | succ n_93 ih_93 =>
      intro l1 l4 l5 v H locs ls hP hD hS hl hf
      rw [f_Md_ofWork_93] at hf
      refine lv_iload hx hb d_Md_ofWork_93 (lv_at hl 3 rfl) ?_
      refine lv_aload_n hx hb d_Md_ofWork_95 rfl (lv_at hl 0 rfl) ?_
      refine va_get (D := G.1) (ci := 9) (v := .ref (a 1)) (C := R_Md) (T := T_Md) (N := 9) hx hb hts in_Md hown hK hP 0 rfl rfl 0 (by decide) (hts _ k_753) (fun _ h9 => h9) rfl d_Md_ofWork_96 ?_
      refine lv_bipush (v := (57 : Int32)) hx hb d_Md_ofWork_99 (by decide) ?_
      obtain ⟨g_101, hf⟩ := og_e hf
      refine va_iald hx hb hK hP 1 0 rfl rfl g_101 d_Md_ofWork_101 ?_
      refine lv_icmp_gt (tgt := 137) hx hb d_Md_ofWork_102 (by decide) (fun c_102 => ?_) (fun c_102 => ?_)
      · replace hf := ob_et c_102 hf
        refine lv_iload hx hb d_Md_ofWork_137 (lv_at hl 2 rfl) ?_
        cases hf
        exact kI hx hb hr hlk hP hD hS d_Md_ofWork_139
      · replace hf := ob_ef c_102 hf
        refine lv_iload hx hb d_Md_ofWork_105 (lv_at hl 2 rfl) ?_
        refine lv_aload_n hx hb d_Md_ofWork_107 rfl (lv_at hl 0 rfl) ?_
        refine va_get (D := G.1) (ci := 9) (v := .ref (a 1)) (C := R_Md) (T := T_Md) (N := 9) hx hb hts in_Md hown hK hP 0 rfl rfl 0 (by decide) (hts _ k_753) (fun _ h9 => h9) rfl d_Md_ofWork_108 ?_
        refine lv_iload hx hb d_Md_ofWork_111 (lv_at hl 3 rfl) ?_
        obtain ⟨q_113, hc_113, hf⟩ := oc_e hf
        refine kcS (cc := c_Md_ofWork) (own := "FloodDiaryModel") (index := 43) (wc := ([] : va_W)) (wr := W_Md G a v) (wc' := ([] : va_W)) (ws' := W_Md G a v) hx hb hml hown hts hK hN hA hP hD hS (t_Md_at l G l5 q_113 hc_113) m_Md_at k_805 ⟨Nat.le_of_ble_eq_true rfl, Nat.le_of_ble_eq_true rfl⟩ (List.Perm.refl _) (List.Perm.refl _) rfl rfl (Nat.le_of_ble_eq_true rfl) hl.1 d_Md_ofWork_113 ⟨Nat.zero_le _, Nat.zero_le _⟩ (fun H locs hP hD hS => ?_)
        refine lv_iconst (v := (1 : Int32)) hx hb d_Md_ofWork_116 (by decide) ?_
        refine lv_iadd hx hb d_Md_ofWork_117 ?_
        obtain ⟨g_118, hf⟩ := og_e hf
        refine va_iald hx hb hK hP 1 0 rfl rfl g_118 d_Md_ofWork_118 ?_
        refine lv_iload_n hx hb d_Md_ofWork_119 rfl (lv_at hl 1 rfl) ?_
        refine lv_icmp_ne (tgt := 127) hx hb d_Md_ofWork_120 (by decide) (fun c_120 => ?_) (fun c_120 => ?_)
        · replace hf := ob_ef c_120 hf
          refine lv_iconst (v := (0 : Int32)) hx hb d_Md_ofWork_127 (by decide) ?_
          refine lv_iadd hx hb d_Md_ofWork_128 ?_
          refine lv_istore (lv' := [(4, .int (l4 + (0 : Int32))), (0, .ref (a 0)), (1, .int l1), (5, .int l5)]) hx hb d_Md_ofWork_129 hl (by decide) rfl (fun ls hl => ?_)
          refine lv_iinc (v := (l5 + (1 : Int32))) (lv' := [(5, .int (l5 + (1 : Int32))), (4, .int (l4 + (0 : Int32))), (0, .ref (a 0)), (1, .int l1)]) hx hb d_Md_ofWork_131 hl (k := 3) rfl rfl (by decide) rfl (fun ls hl => ?_)
          refine lv_goto (tgt := 93) hx hb d_Md_ofWork_134 (by decide) ?_
          exact ih_93 l1 (l4 + (0 : Int32)) (l5 + (1 : Int32)) v _ _ ls hP hD hS (lv_sub hl [2, 3, 1, 0] rfl) hf
        · replace hf := ob_et c_120 hf
          refine lv_iconst (v := (1 : Int32)) hx hb d_Md_ofWork_123 (by decide) ?_
          refine lv_goto (tgt := 128) hx hb d_Md_ofWork_124 (by decide) ?_
          refine lv_iadd hx hb d_Md_ofWork_128 ?_
          refine lv_istore (lv' := [(4, .int (l4 + (1 : Int32))), (0, .ref (a 0)), (1, .int l1), (5, .int l5)]) hx hb d_Md_ofWork_129 hl (by decide) rfl (fun ls hl => ?_)
          refine lv_iinc (v := (l5 + (1 : Int32))) (lv' := [(5, .int (l5 + (1 : Int32))), (4, .int (l4 + (1 : Int32))), (0, .ref (a 0)), (1, .int l1)]) hx hb d_Md_ofWork_131 hl (k := 3) rfl rfl (by decide) rfl (fun ls hl => ?_)
          refine lv_goto (tgt := 93) hx hb d_Md_ofWork_134 (by decide) ?_
          exact ih_93 l1 (l4 + (1 : Int32)) (l5 + (1 : Int32)) v _ _ ls hP hD hS (lv_sub hl [2, 3, 1, 0] rfl) hf
  have J_30 : ∀ (l1 : Int32) (l2 : Int32) (s0 : Int32) (v : V_Md) (H : Heap) (locs : List Loc) (ls : Array Slot), va_P G.1 vwCl (W_Md G a v) H → va_D A (W_Md G a v) → va_S A s.heap H locs → lv_has ls 6 [(0, .ref (a 0)), (1, .int l1), (2, .int l2)] → f_Md_ofWork_30 l1 l2 s0 v = some q → W p l e (rmk 3 64) s m args below meth c H locs 0 0 (MQ below (qI G A (W_Md G a v) (q)) args s 0 0 A) (F0 m 30 ls [.int s0]) := by
    intro l1 l2 s0 v H locs ls hP hD hS hl hf
    unfold f_Md_ofWork_30 at hf
    refine lv_istore_n (lv' := [(3, .int s0), (0, .ref (a 0)), (1, .int l1), (2, .int l2)]) hx hb d_Md_ofWork_30 rfl hl (by decide) rfl (fun ls hl => ?_)
    refine lv_iload_n hx hb d_Md_ofWork_31 rfl (lv_at hl 3 rfl) ?_
    by_cases e_32_0 : l2 = (0 : Int32)
    · replace hf := ob_et e_32_0 hf
      refine lv_tableIn (off := 36) (tgt := 68) hx hb d_Md_ofWork_32 (by rw [e_32_0]; decide) (by rw [e_32_0]; decide) (by rw [e_32_0]; decide) (by decide) ?_
      refine lv_aload_n hx hb d_Md_ofWork_68 rfl (lv_at hl 1 rfl) ?_
      refine va_get (D := G.1) (ci := 9) (v := .ref (a 1)) (C := R_Md) (T := T_Md) (N := 9) hx hb hts in_Md hown hK hP 0 rfl rfl 0 (by decide) (hts _ k_753) (fun _ h9 => h9) rfl d_Md_ofWork_69 ?_
      refine lv_bipush (v := (40 : Int32)) hx hb d_Md_ofWork_72 (by decide) ?_
      refine lv_iload_n hx hb d_Md_ofWork_74 rfl (lv_at hl 2 rfl) ?_
      refine lv_iadd hx hb d_Md_ofWork_75 ?_
      obtain ⟨g_76, hf⟩ := og_e hf
      refine va_iald hx hb hK hP 1 0 rfl rfl g_76 d_Md_ofWork_76 ?_
      cases hf
      exact kI hx hb hr hlk hP hD hS d_Md_ofWork_77
    · replace hf := ob_ef e_32_0 hf
      by_cases e_32_1 : l2 = (1 : Int32)
      · replace hf := ob_et e_32_1 hf
        refine lv_tableIn (off := 46) (tgt := 78) hx hb d_Md_ofWork_32 (by rw [e_32_1]; decide) (by rw [e_32_1]; decide) (by rw [e_32_1]; decide) (by decide) ?_
        refine lv_aload_n hx hb d_Md_ofWork_78 rfl (lv_at hl 1 rfl) ?_
        refine va_get (D := G.1) (ci := 9) (v := .ref (a 1)) (C := R_Md) (T := T_Md) (N := 9) hx hb hts in_Md hown hK hP 0 rfl rfl 0 (by decide) (hts _ k_753) (fun _ h9 => h9) rfl d_Md_ofWork_79 ?_
        refine lv_iload_n hx hb d_Md_ofWork_82 rfl (lv_at hl 2 rfl) ?_
        obtain ⟨q_83, hc_83, hf⟩ := oc_e hf
        refine kcS (cc := c_Md_ofWork) (own := "FloodDiaryModel") (index := 47) (wc := W_Row G 2400 (a 1) v.1) (wr := O_Md G a v ++ (W_Row G 2400 (a 2) v.2.1 ++ (W_Row G 14400 (a 3) v.2.2.1 ++ (W_Row G 4800 (a 4) v.2.2.2.2.1 ++ (W_RowZ G 2 (a 5) v.2.2.2.2.2.1 ++ (W_Row G 80 (a 6) v.2.2.2.2.2.2.1 ++ (([] : va_W)))))))) (wc' := W_Row G 2400 (a 1) v.1) (ws' := W_Md G a v) hx hb hml hown hts hK hN hA hP hD hS (t_Md_lastOf l G (a 1) l1 v.1 q_83 hc_83) m_Md_lastOf k_802 ⟨Nat.le_of_ble_eq_true rfl, Nat.le_of_ble_eq_true rfl⟩ (pm_12 (O_Md G a v) (W_Row G 2400 (a 1) v.1) (W_Row G 2400 (a 2) v.2.1) (W_Row G 14400 (a 3) v.2.2.1) (W_Row G 4800 (a 4) v.2.2.2.2.1) (W_RowZ G 2 (a 5) v.2.2.2.2.2.1) (W_Row G 80 (a 6) v.2.2.2.2.2.2.1)) (pm_12 (O_Md G a v) (W_Row G 2400 (a 1) v.1) (W_Row G 2400 (a 2) v.2.1) (W_Row G 14400 (a 3) v.2.2.1) (W_Row G 4800 (a 4) v.2.2.2.2.1) (W_RowZ G 2 (a 5) v.2.2.2.2.2.1) (W_Row G 80 (a 6) v.2.2.2.2.2.2.1)).symm rfl rfl (Nat.le_of_ble_eq_true rfl) hl.1 d_Md_ofWork_83 ⟨Nat.zero_le _, Nat.zero_le _⟩ (fun H locs hP hD hS => ?_)
        cases hf
        exact kI hx hb hr hlk hP hD hS d_Md_ofWork_86
      · replace hf := ob_ef e_32_1 hf
        by_cases e_32_2 : l2 = (2 : Int32)
        · replace hf := ob_et e_32_2 hf
          refine lv_tableIn (off := 55) (tgt := 87) hx hb d_Md_ofWork_32 (by rw [e_32_2]; decide) (by rw [e_32_2]; decide) (by rw [e_32_2]; decide) (by decide) ?_
          refine lv_iconst (v := (0 : Int32)) hx hb d_Md_ofWork_87 (by decide) ?_
          refine lv_istore (lv' := [(4, .int (0 : Int32)), (3, .int s0), (0, .ref (a 0)), (1, .int l1), (2, .int l2)]) hx hb d_Md_ofWork_88 hl (by decide) rfl (fun ls hl => ?_)
          refine lv_iconst (v := (1 : Int32)) hx hb d_Md_ofWork_90 (by decide) ?_
          refine lv_istore (lv' := [(5, .int (1 : Int32)), (4, .int (0 : Int32)), (3, .int s0), (0, .ref (a 0)), (1, .int l1), (2, .int l2)]) hx hb d_Md_ofWork_91 hl (by decide) rfl (fun ls hl => ?_)
          exact J_93 FU l1 (0 : Int32) (1 : Int32) v _ _ ls hP hD hS (lv_sub hl [3, 4, 1, 0] rfl) hf
        · replace hf := ob_ef e_32_2 hf
          by_cases e_32_3 : l2 = (3 : Int32)
          · replace hf := ob_et e_32_3 hf
            refine lv_tableIn (off := 108) (tgt := 140) hx hb d_Md_ofWork_32 (by rw [e_32_3]; decide) (by rw [e_32_3]; decide) (by rw [e_32_3]; decide) (by decide) ?_
            refine lv_iload_n hx hb d_Md_ofWork_140 rfl (lv_at hl 0 rfl) ?_
            refine lv_if_eq (tgt := 155) hx hb d_Md_ofWork_141 (by decide) (fun c_141 => ?_) (fun c_141 => ?_)
            · replace hf := ob_et c_141 hf
              refine lv_iconst (v := (0 : Int32)) hx hb d_Md_ofWork_155 (by decide) ?_
              cases hf
              exact kI hx hb hr hlk hP hD hS d_Md_ofWork_156
            · replace hf := ob_ef c_141 hf
              refine lv_aload_n hx hb d_Md_ofWork_144 rfl (lv_at hl 1 rfl) ?_
              refine va_get (D := G.1) (ci := 9) (v := .ref (a 1)) (C := R_Md) (T := T_Md) (N := 9) hx hb hts in_Md hown hK hP 0 rfl rfl 0 (by decide) (hts _ k_753) (fun _ h9 => h9) rfl d_Md_ofWork_145 ?_
              refine lv_iload_n hx hb d_Md_ofWork_148 rfl (lv_at hl 2 rfl) ?_
              obtain ⟨q_149, hc_149, hf⟩ := oc_e hf
              refine kcS (cc := c_Md_ofWork) (own := "FloodDiaryModel") (index := 51) (wc := W_Row G 2400 (a 1) v.1) (wr := O_Md G a v ++ (W_Row G 2400 (a 2) v.2.1 ++ (W_Row G 14400 (a 3) v.2.2.1 ++ (W_Row G 4800 (a 4) v.2.2.2.2.1 ++ (W_RowZ G 2 (a 5) v.2.2.2.2.2.1 ++ (W_Row G 80 (a 6) v.2.2.2.2.2.2.1 ++ (([] : va_W)))))))) (wc' := W_Row G 2400 (a 1) v.1) (ws' := W_Md G a v) hx hb hml hown hts hK hN hA hP hD hS (t_Md_pagesOf l G (a 1) l1 v.1 q_149 hc_149) m_Md_pagesOf k_829 ⟨Nat.le_of_ble_eq_true rfl, Nat.le_of_ble_eq_true rfl⟩ (pm_12 (O_Md G a v) (W_Row G 2400 (a 1) v.1) (W_Row G 2400 (a 2) v.2.1) (W_Row G 14400 (a 3) v.2.2.1) (W_Row G 4800 (a 4) v.2.2.2.2.1) (W_RowZ G 2 (a 5) v.2.2.2.2.2.1) (W_Row G 80 (a 6) v.2.2.2.2.2.2.1)) (pm_12 (O_Md G a v) (W_Row G 2400 (a 1) v.1) (W_Row G 2400 (a 2) v.2.1) (W_Row G 14400 (a 3) v.2.2.1) (W_Row G 4800 (a 4) v.2.2.2.2.1) (W_RowZ G 2 (a 5) v.2.2.2.2.2.1) (W_Row G 80 (a 6) v.2.2.2.2.2.2.1)).symm rfl rfl (Nat.le_of_ble_eq_true rfl) hl.1 d_Md_ofWork_149 ⟨Nat.zero_le _, Nat.zero_le _⟩ (fun H locs hP hD hS => ?_)
              refine lv_goto (tgt := 156) hx hb d_Md_ofWork_152 (by decide) ?_
              cases hf
              exact kI hx hb hr hlk hP hD hS d_Md_ofWork_156
          · replace hf := ob_ef e_32_3 hf
            by_cases e_32_4 : l2 = (4 : Int32)
            · replace hf := ob_et e_32_4 hf
              refine lv_tableIn (off := 125) (tgt := 157) hx hb d_Md_ofWork_32 (by rw [e_32_4]; decide) (by rw [e_32_4]; decide) (by rw [e_32_4]; decide) (by decide) ?_
              refine lv_iload_n hx hb d_Md_ofWork_157 rfl (lv_at hl 0 rfl) ?_
              refine lv_if_eq (tgt := 172) hx hb d_Md_ofWork_158 (by decide) (fun c_158 => ?_) (fun c_158 => ?_)
              · replace hf := ob_et c_158 hf
                refine lv_iconst (v := (0 : Int32)) hx hb d_Md_ofWork_172 (by decide) ?_
                cases hf
                exact kI hx hb hr hlk hP hD hS d_Md_ofWork_173
              · replace hf := ob_ef c_158 hf
                refine lv_aload_n hx hb d_Md_ofWork_161 rfl (lv_at hl 1 rfl) ?_
                refine va_get (D := G.1) (ci := 9) (v := .ref (a 1)) (C := R_Md) (T := T_Md) (N := 9) hx hb hts in_Md hown hK hP 0 rfl rfl 0 (by decide) (hts _ k_753) (fun _ h9 => h9) rfl d_Md_ofWork_162 ?_
                refine lv_iload_n hx hb d_Md_ofWork_165 rfl (lv_at hl 2 rfl) ?_
                obtain ⟨q_166, hc_166, hf⟩ := oc_e hf
                refine kcS (cc := c_Md_ofWork) (own := "FloodDiaryModel") (index := 54) (wc := W_Row G 2400 (a 1) v.1) (wr := O_Md G a v ++ (W_Row G 2400 (a 2) v.2.1 ++ (W_Row G 14400 (a 3) v.2.2.1 ++ (W_Row G 4800 (a 4) v.2.2.2.2.1 ++ (W_RowZ G 2 (a 5) v.2.2.2.2.2.1 ++ (W_Row G 80 (a 6) v.2.2.2.2.2.2.1 ++ (([] : va_W)))))))) (wc' := W_Row G 2400 (a 1) v.1) (ws' := W_Md G a v) hx hb hml hown hts hK hN hA hP hD hS (t_Md_goesOnWith l G (a 1) l1 v.1 q_166 hc_166) m_Md_goesOnWith k_873 ⟨Nat.le_of_ble_eq_true rfl, Nat.le_of_ble_eq_true rfl⟩ (pm_12 (O_Md G a v) (W_Row G 2400 (a 1) v.1) (W_Row G 2400 (a 2) v.2.1) (W_Row G 14400 (a 3) v.2.2.1) (W_Row G 4800 (a 4) v.2.2.2.2.1) (W_RowZ G 2 (a 5) v.2.2.2.2.2.1) (W_Row G 80 (a 6) v.2.2.2.2.2.2.1)) (pm_12 (O_Md G a v) (W_Row G 2400 (a 1) v.1) (W_Row G 2400 (a 2) v.2.1) (W_Row G 14400 (a 3) v.2.2.1) (W_Row G 4800 (a 4) v.2.2.2.2.1) (W_RowZ G 2 (a 5) v.2.2.2.2.2.1) (W_Row G 80 (a 6) v.2.2.2.2.2.2.1)).symm rfl rfl (Nat.le_of_ble_eq_true rfl) hl.1 d_Md_ofWork_166 ⟨Nat.zero_le _, Nat.zero_le _⟩ (fun H locs hP hD hS => ?_)
                refine lv_goto (tgt := 173) hx hb d_Md_ofWork_169 (by decide) ?_
                cases hf
                exact kI hx hb hr hlk hP hD hS d_Md_ofWork_173
            · replace hf := ob_ef e_32_4 hf
              have z_32_0 := lv_neT e_32_0 (show (0 : Int32).toInt = 0 by decide)
              have z_32_1 := lv_neT e_32_1 (show (1 : Int32).toInt = 1 by decide)
              have z_32_2 := lv_neT e_32_2 (show (2 : Int32).toInt = 2 by decide)
              have z_32_3 := lv_neT e_32_3 (show (3 : Int32).toInt = 3 by decide)
              have z_32_4 := lv_neT e_32_4 (show (4 : Int32).toInt = 4 by decide)
              refine lv_tableOut (tgt := 174) hx hb d_Md_ofWork_32 (by omega) (by decide) ?_
              refine lv_bipush (v := (-2 : Int32)) hx hb d_Md_ofWork_174 (by decide) ?_
              cases hf
              exact kI hx hb hr hlk hP hD hS d_Md_ofWork_176
  unfold f_Md_ofWork at hf
  refine lv_aload_n hx hb d_Md_ofWork_0 rfl (lv_at hl 0 rfl) ?_
  refine va_get (D := G.1) (ci := 9) (v := .ref (a 1)) (C := R_Md) (T := T_Md) (N := 9) hx hb hts in_Md hown hK hP 0 rfl rfl 0 (by decide) (hts _ k_753) (fun _ h9 => h9) rfl d_Md_ofWork_1 ?_
  refine lv_iload_n hx hb d_Md_ofWork_4 rfl (lv_at hl 1 rfl) ?_
  obtain ⟨q_5, hc_5, hf⟩ := oc_e hf
  refine kcS (cc := c_Md_ofWork) (own := "FloodDiaryModel") (index := 99) (wc := W_Row G 2400 (a 1) v.1) (wr := O_Md G a v ++ (W_Row G 2400 (a 2) v.2.1 ++ (W_Row G 14400 (a 3) v.2.2.1 ++ (W_Row G 4800 (a 4) v.2.2.2.2.1 ++ (W_RowZ G 2 (a 5) v.2.2.2.2.2.1 ++ (W_Row G 80 (a 6) v.2.2.2.2.2.2.1 ++ (([] : va_W)))))))) (wc' := W_Row G 2400 (a 1) v.1) (ws' := W_Md G a v) hx hb hml hown hts hK hN hA hP hD hS (t_Md_isWork l G (a 1) l1 v.1 q_5 hc_5) m_Md_isWork k_815 ⟨Nat.le_of_ble_eq_true rfl, Nat.le_of_ble_eq_true rfl⟩ (pm_12 (O_Md G a v) (W_Row G 2400 (a 1) v.1) (W_Row G 2400 (a 2) v.2.1) (W_Row G 14400 (a 3) v.2.2.1) (W_Row G 4800 (a 4) v.2.2.2.2.1) (W_RowZ G 2 (a 5) v.2.2.2.2.2.1) (W_Row G 80 (a 6) v.2.2.2.2.2.2.1)) (pm_12 (O_Md G a v) (W_Row G 2400 (a 1) v.1) (W_Row G 2400 (a 2) v.2.1) (W_Row G 14400 (a 3) v.2.2.1) (W_Row G 4800 (a 4) v.2.2.2.2.1) (W_RowZ G 2 (a 5) v.2.2.2.2.2.1) (W_Row G 80 (a 6) v.2.2.2.2.2.2.1)).symm rfl rfl (Nat.le_of_ble_eq_true rfl) hl.1 d_Md_ofWork_5 ⟨Nat.zero_le _, Nat.zero_le _⟩ (fun H locs hP hD hS => ?_)
  refine lv_if_ne (tgt := 13) hx hb d_Md_ofWork_8 (by decide) (fun c_8 => ?_) (fun c_8 => ?_)
  · replace hf := ob_ef c_8 hf
    refine lv_aload_n hx hb d_Md_ofWork_13 rfl (lv_at hl 0 rfl) ?_
    refine va_get (D := G.1) (ci := 9) (v := .ref (a 1)) (C := R_Md) (T := T_Md) (N := 9) hx hb hts in_Md hown hK hP 0 rfl rfl 0 (by decide) (hts _ k_753) (fun _ h9 => h9) rfl d_Md_ofWork_14 ?_
    refine lv_bipush (v := (40 : Int32)) hx hb d_Md_ofWork_17 (by decide) ?_
    refine lv_iload_n hx hb d_Md_ofWork_19 rfl (lv_at hl 1 rfl) ?_
    refine lv_iadd hx hb d_Md_ofWork_20 ?_
    obtain ⟨g_21, hf⟩ := og_e hf
    refine va_iald hx hb hK hP 1 0 rfl rfl g_21 d_Md_ofWork_21 ?_
    refine lv_if_ne (tgt := 29) hx hb d_Md_ofWork_22 (by decide) (fun c_22 => ?_) (fun c_22 => ?_)
    · replace hf := ob_ef c_22 hf
      refine lv_iconst (v := (0 : Int32)) hx hb d_Md_ofWork_29 (by decide) ?_
      exact J_30 l1 l2 (0 : Int32) v _ _ ls hP hD hS (lv_sub hl [0, 1, 2] rfl) hf
    · replace hf := ob_et c_22 hf
      refine lv_iconst (v := (1 : Int32)) hx hb d_Md_ofWork_25 (by decide) ?_
      refine lv_goto (tgt := 30) hx hb d_Md_ofWork_26 (by decide) ?_
      exact J_30 l1 l2 (1 : Int32) v _ _ ls hP hD hS (lv_sub hl [0, 1, 2] rfl) hf
  · replace hf := ob_et c_8 hf
    refine lv_iconst (v := (-1 : Int32)) hx hb d_Md_ofWork_11 (by decide) ?_
    cases hf
    exact kI hx hb hr hlk hP hD hS d_Md_ofWork_12
set_option maxHeartbeats 4000000 in
set_option maxRecDepth 100000 in
theorem t_Md_ofEntry (l : Launch) (G : GG) (a : Nat → Nat) (l1 : Int32) (l2 : Int32) (v : V_Md) (q : Int32) (hf : f_Md_ofEntry l1 l2 v = some q) : MI l G y_Md_ofEntry c_Md_ofEntry 3 (some .int) (rmk 1 25) (W_Md G a v) [.ref (a 0), .int l1, .int l2] (W_Md G a v) (q) := by
  refine ofI "FloodDiaryModel" (by decide +kernel) rfl (Nat.le_of_ble_eq_true rfl) (fun p e s m args below meth c A ls hx hb hr hml hown hts hlk hK hN hA hP hD hS hl => ?_)
  have hl : lv_has ls 3 [(0, .ref (a 0)), (1, .int l1), (2, .int l2)] := hl
  unfold f_Md_ofEntry at hf
  refine lv_iload_n hx hb d_Md_ofEntry_0 rfl (lv_at hl 1 rfl) ?_
  refine lv_i2l (v := l1.toInt64) hx hb d_Md_ofEntry_1 rfl ?_
  refine lv_lconst (v := (1 : Int64)) hx hb d_Md_ofEntry_2 (by decide) ?_
  refine lv_aload_n hx hb d_Md_ofEntry_3 rfl (lv_at hl 0 rfl) ?_
  refine va_get (D := G.1) (ci := 9) (v := .ref (a 1)) (C := R_Md) (T := T_Md) (N := 9) hx hb hts in_Md hown hK hP 0 rfl rfl 0 (by decide) (hts _ k_753) (fun _ h9 => h9) rfl d_Md_ofEntry_4 ?_
  refine lv_bipush (v := (57 : Int32)) hx hb d_Md_ofEntry_7 (by decide) ?_
  obtain ⟨g_9, hf⟩ := og_e hf
  refine va_iald hx hb hK hP 1 0 rfl rfl g_9 d_Md_ofEntry_9 ?_
  refine lv_i2l (v := (v.1 (57 : Int32).toNatClampNeg).toInt64) hx hb d_Md_ofEntry_10 rfl ?_
  obtain ⟨q_11, hc_11, hf⟩ := oc_e hf
  refine kcS (cc := c_Md_ofEntry) (own := "FloodDiaryModel") (index := 35) (wc := ([] : va_W)) (wr := W_Md G a v) (wc' := ([] : va_W)) (ws' := W_Md G a v) hx hb hml hown hts hK hN hA hP hD hS (t_Md_in l G l1.toInt64 (1 : Int64) ((v.1 (57 : Int32).toNatClampNeg).toInt64) q_11 hc_11) m_Md_in k_818 ⟨Nat.le_of_ble_eq_true rfl, Nat.le_of_ble_eq_true rfl⟩ (List.Perm.refl _) (List.Perm.refl _) rfl rfl (Nat.le_of_ble_eq_true rfl) hl.1 d_Md_ofEntry_11 ⟨Nat.zero_le _, Nat.zero_le _⟩ (fun H locs hP hD hS => ?_)
  refine lv_if_ne (tgt := 19) hx hb d_Md_ofEntry_14 (by decide) (fun c_14 => ?_) (fun c_14 => ?_)
  · replace hf := ob_ef c_14 hf
    refine lv_iload_n hx hb d_Md_ofEntry_19 rfl (lv_at hl 2 rfl) ?_
    refine lv_i2l (v := l2.toInt64) hx hb d_Md_ofEntry_20 rfl ?_
    refine lv_lconst (v := (0 : Int64)) hx hb d_Md_ofEntry_21 (by decide) ?_
    refine lv_ldc2 (v := (7 : Int64)) hx hb hown (hts _ k_824) d_Md_ofEntry_22 ?_
    obtain ⟨q_25, hc_25, hf⟩ := oc_e hf
    refine kcS (cc := c_Md_ofEntry) (own := "FloodDiaryModel") (index := 35) (wc := ([] : va_W)) (wr := W_Md G a v) (wc' := ([] : va_W)) (ws' := W_Md G a v) hx hb hml hown hts hK hN hA hP hD hS (t_Md_in l G l2.toInt64 (0 : Int64) (7 : Int64) q_25 hc_25) m_Md_in k_818 ⟨Nat.le_of_ble_eq_true rfl, Nat.le_of_ble_eq_true rfl⟩ (List.Perm.refl _) (List.Perm.refl _) rfl rfl (Nat.le_of_ble_eq_true rfl) hl.1 d_Md_ofEntry_25 ⟨Nat.zero_le _, Nat.zero_le _⟩ (fun H locs hP hD hS => ?_)
    refine lv_if_ne (tgt := 36) hx hb d_Md_ofEntry_28 (by decide) (fun c_28 => ?_) (fun c_28 => ?_)
    · replace hf := ob_ef c_28 hf
      refine lv_iload_n hx hb d_Md_ofEntry_36 rfl (lv_at hl 2 rfl) ?_
      refine lv_bipush (v := (7 : Int32)) hx hb d_Md_ofEntry_37 (by decide) ?_
      refine lv_icmp_ne (tgt := 61) hx hb d_Md_ofEntry_39 (by decide) (fun c_39 => ?_) (fun c_39 => ?_)
      · replace hf := ob_ef c_39 hf
        refine lv_aload_n hx hb d_Md_ofEntry_61 rfl (lv_at hl 0 rfl) ?_
        refine va_get (D := G.1) (ci := 9) (v := .ref (a 1)) (C := R_Md) (T := T_Md) (N := 9) hx hb hts in_Md hown hK hP 0 rfl rfl 0 (by decide) (hts _ k_753) (fun _ h9 => h9) rfl d_Md_ofEntry_62 ?_
        refine lv_iload_n hx hb d_Md_ofEntry_65 rfl (lv_at hl 1 rfl) ?_
        obtain ⟨q_66, hc_66, hf⟩ := oc_e hf
        refine kcS (cc := c_Md_ofEntry) (own := "FloodDiaryModel") (index := 43) (wc := ([] : va_W)) (wr := W_Md G a v) (wc' := ([] : va_W)) (ws' := W_Md G a v) hx hb hml hown hts hK hN hA hP hD hS (t_Md_at l G l1 q_66 hc_66) m_Md_at k_805 ⟨Nat.le_of_ble_eq_true rfl, Nat.le_of_ble_eq_true rfl⟩ (List.Perm.refl _) (List.Perm.refl _) rfl rfl (Nat.le_of_ble_eq_true rfl) hl.1 d_Md_ofEntry_66 ⟨Nat.zero_le _, Nat.zero_le _⟩ (fun H locs hP hD hS => ?_)
        refine lv_iload_n hx hb d_Md_ofEntry_69 rfl (lv_at hl 2 rfl) ?_
        refine lv_iadd hx hb d_Md_ofEntry_70 ?_
        obtain ⟨g_71, hf⟩ := og_e hf
        refine va_iald hx hb hK hP 1 0 rfl rfl g_71 d_Md_ofEntry_71 ?_
        cases hf
        exact kI hx hb hr hlk hP hD hS d_Md_ofEntry_72
      · replace hf := ob_et c_39 hf
        refine lv_iload_n hx hb d_Md_ofEntry_42 rfl (lv_at hl 1 rfl) ?_
        refine lv_aload_n hx hb d_Md_ofEntry_43 rfl (lv_at hl 0 rfl) ?_
        refine va_get (D := G.1) (ci := 9) (v := .ref (a 1)) (C := R_Md) (T := T_Md) (N := 9) hx hb hts in_Md hown hK hP 0 rfl rfl 0 (by decide) (hts _ k_753) (fun _ h9 => h9) rfl d_Md_ofEntry_44 ?_
        refine lv_bipush (v := (58 : Int32)) hx hb d_Md_ofEntry_47 (by decide) ?_
        obtain ⟨g_49, hf⟩ := og_e hf
        refine va_iald hx hb hK hP 1 0 rfl rfl g_49 d_Md_ofEntry_49 ?_
        refine lv_icmp_gt (tgt := 57) hx hb d_Md_ofEntry_50 (by decide) (fun c_50 => ?_) (fun c_50 => ?_)
        · replace hf := ob_et c_50 hf
          refine lv_iconst (v := (0 : Int32)) hx hb d_Md_ofEntry_57 (by decide) ?_
          refine lv_goto (tgt := 72) hx hb d_Md_ofEntry_58 (by decide) ?_
          cases hf
          exact kI hx hb hr hlk hP hD hS d_Md_ofEntry_72
        · replace hf := ob_ef c_50 hf
          refine lv_iconst (v := (1 : Int32)) hx hb d_Md_ofEntry_53 (by decide) ?_
          refine lv_goto (tgt := 72) hx hb d_Md_ofEntry_54 (by decide) ?_
          cases hf
          exact kI hx hb hr hlk hP hD hS d_Md_ofEntry_72
    · replace hf := ob_et c_28 hf
      refine lv_bipush (v := (-2 : Int32)) hx hb d_Md_ofEntry_31 (by decide) ?_
      refine lv_goto (tgt := 72) hx hb d_Md_ofEntry_33 (by decide) ?_
      cases hf
      exact kI hx hb hr hlk hP hD hS d_Md_ofEntry_72
  · replace hf := ob_et c_14 hf
    refine lv_iconst (v := (-1 : Int32)) hx hb d_Md_ofEntry_17 (by decide) ?_
    cases hf
    exact kI hx hb hr hlk hP hD hS d_Md_ofEntry_18
set_option maxHeartbeats 4000000 in
set_option maxRecDepth 100000 in
theorem t_Md_count (l : Launch) (G : GG) (a : Nat → Nat) (l1 : Int32) (v : V_Md) (q : Int32) (hf : f_Md_count l1 v = some q) : MI l G y_Md_count c_Md_count 4 (some .int) (rmk 1 21) (W_Md G a v) [.ref (a 0), .int l1] (W_Md G a v) (q) := by
  refine ofI "FloodDiaryModel" (by decide +kernel) rfl (Nat.le_of_ble_eq_true rfl) (fun p e s m args below meth c A ls hx hb hr hml hown hts hlk hK hN hA hP hD hS hl => ?_)
  have hl : lv_has ls 4 [(0, .ref (a 0)), (1, .int l1)] := hl
  have J_118 : ∀ (n_118 : Nat) (l2 : Int32) (l3 : Int32) (v : V_Md) (H : Heap) (locs : List Loc) (ls : Array Slot), va_P G.1 vwCl (W_Md G a v) H → va_D A (W_Md G a v) → va_S A s.heap H locs → lv_has ls 4 [(0, .ref (a 0)), (2, .int l2), (3, .int l3)] → f_Md_count_118 n_118 l2 l3 v = some q → W p l e (rmk 1 21) s m args below meth c H locs 0 0 (MQ below (qI G A (W_Md G a v) (q)) args s 0 0 A) (F0 m 118 ls []) := by
    intro n_118
    induction n_118 with
    | zero => intro l2 l3 v H locs ls hP hD hS hl hf; exact absurd hf (by unfold f_Md_count_118; exact fun z => by cases z)
    | succ n_118 ih_118 =>
      intro l2 l3 v H locs ls hP hD hS hl hf
      rw [f_Md_count_118] at hf
      refine lv_iload_n hx hb d_Md_count_118 rfl (lv_at hl 2 rfl) ?_
      refine lv_bipush (v := (8 : Int32)) hx hb d_Md_count_119 (by decide) ?_
      refine lv_icmp_ge (tgt := 148) hx hb d_Md_count_121 (by decide) (fun c_121 => ?_) (fun c_121 => ?_)
      · replace hf := ob_et c_121 hf
        refine lv_iload_n hx hb d_Md_count_148 rfl (lv_at hl 1 rfl) ?_
        cases hf
        exact kI hx hb hr hlk hP hD hS d_Md_count_149
      · replace hf := ob_ef c_121 hf
        refine lv_iload_n hx hb d_Md_count_124 rfl (lv_at hl 1 rfl) ?_
        refine lv_aload_n hx hb d_Md_count_125 rfl (lv_at hl 0 rfl) ?_
        refine lv_iload_n hx hb d_Md_count_126 rfl (lv_at hl 2 rfl) ?_
        obtain ⟨q_127, hc_127, hf⟩ := oc_e hf
        refine kcV (cc := c_Md_count) (own := "FloodDiaryModel") (index := 157) (wc := W_Md G a v) (wr := ([] : va_W)) (wc' := W_Md G a v) (ws' := W_Md G a v) hx hb hml hown hts hK hN hA hP hD hS (t_Md_isDirty l G a l3 v q_127 hc_127) m_Md_isDirty k_931 ⟨Nat.le_of_ble_eq_true rfl, Nat.le_of_ble_eq_true rfl⟩ (pm_0 (W_Md G a v)) (pm_0 (W_Md G a v)).symm 9 0 rfl rfl rfl rfl rfl (Nat.le_of_ble_eq_true rfl) hl.1 d_Md_count_127 ⟨Nat.zero_le _, Nat.zero_le _⟩ (fun H locs hP hD hS => ?_)
        refine lv_if_eq (tgt := 139) hx hb d_Md_count_130 (by decide) (fun c_130 => ?_) (fun c_130 => ?_)
        · replace hf := ob_et c_130 hf
          refine lv_iconst (v := (0 : Int32)) hx hb d_Md_count_139 (by decide) ?_
          refine lv_ior hx hb d_Md_count_140 ?_
          refine lv_istore_n (lv' := [(2, .int (l2 ||| (0 : Int32))), (0, .ref (a 0)), (3, .int l3)]) hx hb d_Md_count_141 rfl hl (by decide) rfl (fun ls hl => ?_)
          refine lv_iinc (v := (l3 + (1 : Int32))) (lv' := [(3, .int (l3 + (1 : Int32))), (2, .int (l2 ||| (0 : Int32))), (0, .ref (a 0))]) hx hb d_Md_count_142 hl (k := 2) rfl rfl (by decide) rfl (fun ls hl => ?_)
          refine lv_goto (tgt := 118) hx hb d_Md_count_145 (by decide) ?_
          exact ih_118 (l2 ||| (0 : Int32)) (l3 + (1 : Int32)) v _ _ ls hP hD hS (lv_sub hl [2, 1, 0] rfl) hf
        · replace hf := ob_ef c_130 hf
          refine lv_iconst (v := (1 : Int32)) hx hb d_Md_count_133 (by decide) ?_
          refine lv_iload_n hx hb d_Md_count_134 rfl (lv_at hl 2 rfl) ?_
          refine lv_ishl hx hb d_Md_count_135 ?_
          refine lv_goto (tgt := 140) hx hb d_Md_count_136 (by decide) ?_
          refine lv_ior hx hb d_Md_count_140 ?_
          refine lv_istore_n (lv' := [(2, .int (l2 ||| ((1 : Int32) <<< (l3 &&& 31)))), (0, .ref (a 0)), (3, .int l3)]) hx hb d_Md_count_141 rfl hl (by decide) rfl (fun ls hl => ?_)
          refine lv_iinc (v := (l3 + (1 : Int32))) (lv' := [(3, .int (l3 + (1 : Int32))), (2, .int (l2 ||| ((1 : Int32) <<< (l3 &&& 31)))), (0, .ref (a 0))]) hx hb d_Md_count_142 hl (k := 2) rfl rfl (by decide) rfl (fun ls hl => ?_)
          refine lv_goto (tgt := 118) hx hb d_Md_count_145 (by decide) ?_
          exact ih_118 (l2 ||| ((1 : Int32) <<< (l3 &&& 31))) (l3 + (1 : Int32)) v _ _ ls hP hD hS (lv_sub hl [2, 1, 0] rfl) hf
  have J_152 : ∀ (n_152 : Nat) (l2 : Int32) (l3 : Int32) (v : V_Md) (H : Heap) (locs : List Loc) (ls : Array Slot), va_P G.1 vwCl (W_Md G a v) H → va_D A (W_Md G a v) → va_S A s.heap H locs → lv_has ls 4 [(0, .ref (a 0)), (2, .int l2), (3, .int l3)] → f_Md_count_152 n_152 l2 l3 v = some q → W p l e (rmk 1 21) s m args below meth c H locs 0 0 (MQ below (qI G A (W_Md G a v) (q)) args s 0 0 A) (F0 m 152 ls []) := by
    intro n_152
    induction n_152 with
    | zero => intro l2 l3 v H locs ls hP hD hS hl hf; exact absurd hf (by unfold f_Md_count_152; exact fun z => by cases z)
    | succ n_152 ih_152 =>
      intro l2 l3 v H locs ls hP hD hS hl hf
      rw [f_Md_count_152] at hf
      refine lv_iload_n hx hb d_Md_count_152 rfl (lv_at hl 2 rfl) ?_
      refine lv_aload_n hx hb d_Md_count_153 rfl (lv_at hl 0 rfl) ?_
      refine va_get (D := G.1) (ci := 9) (v := .ref (a 1)) (C := R_Md) (T := T_Md) (N := 9) hx hb hts in_Md hown hK hP 0 rfl rfl 0 (by decide) (hts _ k_753) (fun _ h9 => h9) rfl d_Md_count_154 ?_
      refine lv_bipush (v := (56 : Int32)) hx hb d_Md_count_157 (by decide) ?_
      obtain ⟨g_159, hf⟩ := og_e hf
      refine va_iald hx hb hK hP 1 0 rfl rfl g_159 d_Md_count_159 ?_
      refine lv_icmp_ge (tgt := 191) hx hb d_Md_count_160 (by decide) (fun c_160 => ?_) (fun c_160 => ?_)
      · replace hf := ob_et c_160 hf
        refine lv_iload_n hx hb d_Md_count_191 rfl (lv_at hl 1 rfl) ?_
        cases hf
        exact kI hx hb hr hlk hP hD hS d_Md_count_192
      · replace hf := ob_ef c_160 hf
        refine lv_iload_n hx hb d_Md_count_163 rfl (lv_at hl 1 rfl) ?_
        refine lv_aload_n hx hb d_Md_count_164 rfl (lv_at hl 0 rfl) ?_
        refine va_get (D := G.1) (ci := 9) (v := .ref (a 1)) (C := R_Md) (T := T_Md) (N := 9) hx hb hts in_Md hown hK hP 0 rfl rfl 0 (by decide) (hts _ k_753) (fun _ h9 => h9) rfl d_Md_count_165 ?_
        refine lv_bipush (v := (40 : Int32)) hx hb d_Md_count_168 (by decide) ?_
        refine lv_iload_n hx hb d_Md_count_170 rfl (lv_at hl 2 rfl) ?_
        refine lv_iadd hx hb d_Md_count_171 ?_
        obtain ⟨g_172, hf⟩ := og_e hf
        refine va_iald hx hb hK hP 1 0 rfl rfl g_172 d_Md_count_172 ?_
        refine lv_if_ne (tgt := 182) hx hb d_Md_count_173 (by decide) (fun c_173 => ?_) (fun c_173 => ?_)
        · replace hf := ob_ef c_173 hf
          refine lv_iconst (v := (0 : Int32)) hx hb d_Md_count_182 (by decide) ?_
          refine lv_ior hx hb d_Md_count_183 ?_
          refine lv_istore_n (lv' := [(2, .int (l2 ||| (0 : Int32))), (0, .ref (a 0)), (3, .int l3)]) hx hb d_Md_count_184 rfl hl (by decide) rfl (fun ls hl => ?_)
          refine lv_iinc (v := (l3 + (1 : Int32))) (lv' := [(3, .int (l3 + (1 : Int32))), (2, .int (l2 ||| (0 : Int32))), (0, .ref (a 0))]) hx hb d_Md_count_185 hl (k := 2) rfl rfl (by decide) rfl (fun ls hl => ?_)
          refine lv_goto (tgt := 152) hx hb d_Md_count_188 (by decide) ?_
          exact ih_152 (l2 ||| (0 : Int32)) (l3 + (1 : Int32)) v _ _ ls hP hD hS (lv_sub hl [2, 1, 0] rfl) hf
        · replace hf := ob_et c_173 hf
          refine lv_iconst (v := (1 : Int32)) hx hb d_Md_count_176 (by decide) ?_
          refine lv_iload_n hx hb d_Md_count_177 rfl (lv_at hl 2 rfl) ?_
          refine lv_ishl hx hb d_Md_count_178 ?_
          refine lv_goto (tgt := 183) hx hb d_Md_count_179 (by decide) ?_
          refine lv_ior hx hb d_Md_count_183 ?_
          refine lv_istore_n (lv' := [(2, .int (l2 ||| ((1 : Int32) <<< (l3 &&& 31)))), (0, .ref (a 0)), (3, .int l3)]) hx hb d_Md_count_184 rfl hl (by decide) rfl (fun ls hl => ?_)
          refine lv_iinc (v := (l3 + (1 : Int32))) (lv' := [(3, .int (l3 + (1 : Int32))), (2, .int (l2 ||| ((1 : Int32) <<< (l3 &&& 31)))), (0, .ref (a 0))]) hx hb d_Md_count_185 hl (k := 2) rfl rfl (by decide) rfl (fun ls hl => ?_)
          refine lv_goto (tgt := 152) hx hb d_Md_count_188 (by decide) ?_
          exact ih_152 (l2 ||| ((1 : Int32) <<< (l3 &&& 31))) (l3 + (1 : Int32)) v _ _ ls hP hD hS (lv_sub hl [2, 1, 0] rfl) hf
  unfold f_Md_count at hf
  refine lv_iconst (v := (0 : Int32)) hx hb d_Md_count_0 (by decide) ?_
  refine lv_istore_n (lv' := [(2, .int (0 : Int32)), (0, .ref (a 0)), (1, .int l1)]) hx hb d_Md_count_1 rfl hl (by decide) rfl (fun ls hl => ?_)
  refine lv_iload_n hx hb d_Md_count_2 rfl (lv_at hl 2 rfl) ?_
  by_cases e_3_0 : l1 = (0 : Int32)
  · replace hf := ob_et e_3_0 hf
    refine lv_tableIn (off := 57) (tgt := 60) hx hb d_Md_count_3 (by rw [e_3_0]; decide) (by rw [e_3_0]; decide) (by rw [e_3_0]; decide) (by decide) ?_
    refine lv_aload_n hx hb d_Md_count_60 rfl (lv_at hl 1 rfl) ?_
    refine va_get (D := G.1) (ci := 9) (v := .ref (a 1)) (C := R_Md) (T := T_Md) (N := 9) hx hb hts in_Md hown hK hP 0 rfl rfl 0 (by decide) (hts _ k_753) (fun _ h9 => h9) rfl d_Md_count_61 ?_
    refine lv_bipush (v := (56 : Int32)) hx hb d_Md_count_64 (by decide) ?_
    obtain ⟨g_66, hf⟩ := og_e hf
    refine va_iald hx hb hK hP 1 0 rfl rfl g_66 d_Md_count_66 ?_
    cases hf
    exact kI hx hb hr hlk hP hD hS d_Md_count_67
  · replace hf := ob_ef e_3_0 hf
    by_cases e_3_1 : l1 = (1 : Int32)
    · replace hf := ob_et e_3_1 hf
      refine lv_tableIn (off := 65) (tgt := 68) hx hb d_Md_count_3 (by rw [e_3_1]; decide) (by rw [e_3_1]; decide) (by rw [e_3_1]; decide) (by decide) ?_
      refine lv_aload_n hx hb d_Md_count_68 rfl (lv_at hl 1 rfl) ?_
      refine va_get (D := G.1) (ci := 9) (v := .ref (a 1)) (C := R_Md) (T := T_Md) (N := 9) hx hb hts in_Md hown hK hP 0 rfl rfl 0 (by decide) (hts _ k_753) (fun _ h9 => h9) rfl d_Md_count_69 ?_
      refine lv_bipush (v := (57 : Int32)) hx hb d_Md_count_72 (by decide) ?_
      obtain ⟨g_74, hf⟩ := og_e hf
      refine va_iald hx hb hK hP 1 0 rfl rfl g_74 d_Md_count_74 ?_
      cases hf
      exact kI hx hb hr hlk hP hD hS d_Md_count_75
    · replace hf := ob_ef e_3_1 hf
      by_cases e_3_2 : l1 = (2 : Int32)
      · replace hf := ob_et e_3_2 hf
        refine lv_tableIn (off := 73) (tgt := 76) hx hb d_Md_count_3 (by rw [e_3_2]; decide) (by rw [e_3_2]; decide) (by rw [e_3_2]; decide) (by decide) ?_
        refine lv_aload_n hx hb d_Md_count_76 rfl (lv_at hl 1 rfl) ?_
        refine va_get (D := G.1) (ci := 9) (v := .ref (a 1)) (C := R_Md) (T := T_Md) (N := 9) hx hb hts in_Md hown hK hP 0 rfl rfl 0 (by decide) (hts _ k_753) (fun _ h9 => h9) rfl d_Md_count_77 ?_
        refine lv_bipush (v := (58 : Int32)) hx hb d_Md_count_80 (by decide) ?_
        obtain ⟨g_82, hf⟩ := og_e hf
        refine va_iald hx hb hK hP 1 0 rfl rfl g_82 d_Md_count_82 ?_
        cases hf
        exact kI hx hb hr hlk hP hD hS d_Md_count_83
      · replace hf := ob_ef e_3_2 hf
        by_cases e_3_3 : l1 = (3 : Int32)
        · replace hf := ob_et e_3_3 hf
          refine lv_tableIn (off := 81) (tgt := 84) hx hb d_Md_count_3 (by rw [e_3_3]; decide) (by rw [e_3_3]; decide) (by rw [e_3_3]; decide) (by decide) ?_
          refine lv_aload_n hx hb d_Md_count_84 rfl (lv_at hl 1 rfl) ?_
          refine va_get (D := G.1) (ci := 9) (v := .ref (a 1)) (C := R_Md) (T := T_Md) (N := 9) hx hb hts in_Md hown hK hP 0 rfl rfl 0 (by decide) (hts _ k_753) (fun _ h9 => h9) rfl d_Md_count_85 ?_
          refine lv_bipush (v := (59 : Int32)) hx hb d_Md_count_88 (by decide) ?_
          obtain ⟨g_90, hf⟩ := og_e hf
          refine va_iald hx hb hK hP 1 0 rfl rfl g_90 d_Md_count_90 ?_
          cases hf
          exact kI hx hb hr hlk hP hD hS d_Md_count_91
        · replace hf := ob_ef e_3_3 hf
          by_cases e_3_4 : l1 = (4 : Int32)
          · replace hf := ob_et e_3_4 hf
            refine lv_tableIn (off := 89) (tgt := 92) hx hb d_Md_count_3 (by rw [e_3_4]; decide) (by rw [e_3_4]; decide) (by rw [e_3_4]; decide) (by decide) ?_
            refine lv_aload_n hx hb d_Md_count_92 rfl (lv_at hl 1 rfl) ?_
            refine va_get (D := G.1) (ci := 9) (v := .ref (a 1)) (C := R_Md) (T := T_Md) (N := 9) hx hb hts in_Md hown hK hP 0 rfl rfl 0 (by decide) (hts _ k_753) (fun _ h9 => h9) rfl d_Md_count_93 ?_
            refine lv_bipush (v := (63 : Int32)) hx hb d_Md_count_96 (by decide) ?_
            obtain ⟨g_98, hf⟩ := og_e hf
            refine va_iald hx hb hK hP 1 0 rfl rfl g_98 d_Md_count_98 ?_
            cases hf
            exact kI hx hb hr hlk hP hD hS d_Md_count_99
          · replace hf := ob_ef e_3_4 hf
            by_cases e_3_5 : l1 = (5 : Int32)
            · replace hf := ob_et e_3_5 hf
              refine lv_tableIn (off := 97) (tgt := 100) hx hb d_Md_count_3 (by rw [e_3_5]; decide) (by rw [e_3_5]; decide) (by rw [e_3_5]; decide) (by decide) ?_
              refine lv_aload_n hx hb d_Md_count_100 rfl (lv_at hl 1 rfl) ?_
              refine va_get (D := G.1) (ci := 9) (v := .ref (a 1)) (C := R_Md) (T := T_Md) (N := 9) hx hb hts in_Md hown hK hP 0 rfl rfl 0 (by decide) (hts _ k_753) (fun _ h9 => h9) rfl d_Md_count_101 ?_
              refine lv_bipush (v := (64 : Int32)) hx hb d_Md_count_104 (by decide) ?_
              obtain ⟨g_106, hf⟩ := og_e hf
              refine va_iald hx hb hK hP 1 0 rfl rfl g_106 d_Md_count_106 ?_
              cases hf
              exact kI hx hb hr hlk hP hD hS d_Md_count_107
            · replace hf := ob_ef e_3_5 hf
              by_cases e_3_6 : l1 = (6 : Int32)
              · replace hf := ob_et e_3_6 hf
                refine lv_tableIn (off := 105) (tgt := 108) hx hb d_Md_count_3 (by rw [e_3_6]; decide) (by rw [e_3_6]; decide) (by rw [e_3_6]; decide) (by decide) ?_
                refine lv_aload_n hx hb d_Md_count_108 rfl (lv_at hl 1 rfl) ?_
                refine va_get (D := G.1) (ci := 9) (v := .ref (a 1)) (C := R_Md) (T := T_Md) (N := 9) hx hb hts in_Md hown hK hP 0 rfl rfl 0 (by decide) (hts _ k_753) (fun _ h9 => h9) rfl d_Md_count_109 ?_
                refine lv_bipush (v := (65 : Int32)) hx hb d_Md_count_112 (by decide) ?_
                obtain ⟨g_114, hf⟩ := og_e hf
                refine va_iald hx hb hK hP 1 0 rfl rfl g_114 d_Md_count_114 ?_
                cases hf
                exact kI hx hb hr hlk hP hD hS d_Md_count_115
              · replace hf := ob_ef e_3_6 hf
                by_cases e_3_7 : l1 = (7 : Int32)
                · replace hf := ob_et e_3_7 hf
                  refine lv_tableIn (off := 113) (tgt := 116) hx hb d_Md_count_3 (by rw [e_3_7]; decide) (by rw [e_3_7]; decide) (by rw [e_3_7]; decide) (by decide) ?_
                  refine lv_iconst (v := (0 : Int32)) hx hb d_Md_count_116 (by decide) ?_
                  refine lv_istore_n (lv' := [(3, .int (0 : Int32)), (2, .int (0 : Int32)), (0, .ref (a 0)), (1, .int l1)]) hx hb d_Md_count_117 rfl hl (by decide) rfl (fun ls hl => ?_)
                  exact J_118 FU (0 : Int32) (0 : Int32) v _ _ ls hP hD hS (lv_sub hl [2, 1, 0] rfl) hf
                · replace hf := ob_ef e_3_7 hf
                  by_cases e_3_8 : l1 = (8 : Int32)
                  · replace hf := ob_et e_3_8 hf
                    refine lv_tableIn (off := 147) (tgt := 150) hx hb d_Md_count_3 (by rw [e_3_8]; decide) (by rw [e_3_8]; decide) (by rw [e_3_8]; decide) (by decide) ?_
                    refine lv_iconst (v := (0 : Int32)) hx hb d_Md_count_150 (by decide) ?_
                    refine lv_istore_n (lv' := [(3, .int (0 : Int32)), (2, .int (0 : Int32)), (0, .ref (a 0)), (1, .int l1)]) hx hb d_Md_count_151 rfl hl (by decide) rfl (fun ls hl => ?_)
                    exact J_152 FU (0 : Int32) (0 : Int32) v _ _ ls hP hD hS (lv_sub hl [2, 1, 0] rfl) hf
                  · replace hf := ob_ef e_3_8 hf
                    by_cases e_3_9 : l1 = (9 : Int32)
                    · replace hf := ob_et e_3_9 hf
                      refine lv_tableIn (off := 190) (tgt := 193) hx hb d_Md_count_3 (by rw [e_3_9]; decide) (by rw [e_3_9]; decide) (by rw [e_3_9]; decide) (by decide) ?_
                      refine lv_aload_n hx hb d_Md_count_193 rfl (lv_at hl 1 rfl) ?_
                      refine va_get (D := G.1) (ci := 9) (v := .int v.2.2.2.2.2.2.2.1) (C := R_Md) (T := T_Md) (N := 9) hx hb hts in_Md hown hK hP 0 rfl rfl 7 (by decide) (hts _ k_760) (fun _ h9 => h9) rfl d_Md_count_194 ?_
                      cases hf
                      exact kI hx hb hr hlk hP hD hS d_Md_count_197
                    · replace hf := ob_ef e_3_9 hf
                      by_cases e_3_10 : l1 = (10 : Int32)
                      · replace hf := ob_et e_3_10 hf
                        refine lv_tableIn (off := 195) (tgt := 198) hx hb d_Md_count_3 (by rw [e_3_10]; decide) (by rw [e_3_10]; decide) (by rw [e_3_10]; decide) (by decide) ?_
                        refine lv_aload_n hx hb d_Md_count_198 rfl (lv_at hl 1 rfl) ?_
                        refine va_get (D := G.1) (ci := 9) (v := .int v.2.2.2.1) (C := R_Md) (T := T_Md) (N := 9) hx hb hts in_Md hown hK hP 0 rfl rfl 3 (by decide) (hts _ k_756) (fun _ h9 => h9) rfl d_Md_count_199 ?_
                        cases hf
                        exact kI hx hb hr hlk hP hD hS d_Md_count_202
                      · replace hf := ob_ef e_3_10 hf
                        have z_3_0 := lv_neT e_3_0 (show (0 : Int32).toInt = 0 by decide)
                        have z_3_1 := lv_neT e_3_1 (show (1 : Int32).toInt = 1 by decide)
                        have z_3_2 := lv_neT e_3_2 (show (2 : Int32).toInt = 2 by decide)
                        have z_3_3 := lv_neT e_3_3 (show (3 : Int32).toInt = 3 by decide)
                        have z_3_4 := lv_neT e_3_4 (show (4 : Int32).toInt = 4 by decide)
                        have z_3_5 := lv_neT e_3_5 (show (5 : Int32).toInt = 5 by decide)
                        have z_3_6 := lv_neT e_3_6 (show (6 : Int32).toInt = 6 by decide)
                        have z_3_7 := lv_neT e_3_7 (show (7 : Int32).toInt = 7 by decide)
                        have z_3_8 := lv_neT e_3_8 (show (8 : Int32).toInt = 8 by decide)
                        have z_3_9 := lv_neT e_3_9 (show (9 : Int32).toInt = 9 by decide)
                        have z_3_10 := lv_neT e_3_10 (show (10 : Int32).toInt = 10 by decide)
                        refine lv_tableOut (tgt := 203) hx hb d_Md_count_3 (by omega) (by decide) ?_
                        refine lv_bipush (v := (-2 : Int32)) hx hb d_Md_count_203 (by decide) ?_
                        cases hf
                        exact kI hx hb hr hlk hP hD hS d_Md_count_205
theorem pm_13 (x0 x1 x2 x3 x4 x5 x6 : va_W) : List.Perm (x0 ++ (x1 ++ (x2 ++ (x3 ++ (x4 ++ (x5 ++ (x6 ++ (([] : va_W))))))))) ((x1 ++ x2) ++ (x0 ++ (x3 ++ (x4 ++ (x5 ++ (x6 ++ (([] : va_W)))))))) := prm (fun d z => by first | (simp only [List.count_append, List.count_nil]; omega) | simp only [List.count_append, List.count_nil])
theorem pm_14 (x0 x1 x2 x3 x4 x5 x6 : va_W) : List.Perm (x0 ++ (x1 ++ (x2 ++ (x3 ++ (x4 ++ (x5 ++ (x6 ++ (([] : va_W))))))))) ((x2) ++ (x0 ++ (x1 ++ (x3 ++ (x4 ++ (x5 ++ (x6 ++ (([] : va_W))))))))) := prm (fun d z => by first | (simp only [List.count_append, List.count_nil]; omega) | simp only [List.count_append, List.count_nil])
set_option maxHeartbeats 4000000 in
set_option maxRecDepth 100000 in
theorem t_Md_mendAll (l : Launch) (G : GG) (a : Nat → Nat) (v : V_Md) (q : Int32 × V_Md) (hf : f_Md_mendAll v = some q) : MI l G y_Md_mendAll c_Md_mendAll 2 (some .int) (rmk 6 139) (W_Md G a v) [.ref (a 0)] (W_Md G a q.2) (q.1) := by
  refine ofI "FloodDiaryModel" (by decide +kernel) rfl (Nat.le_of_ble_eq_true rfl) (fun p e s m args below meth c A ls hx hb hr hml hown hts hlk hK hN hA hP hD hS hl => ?_)
  have hl : lv_has ls 2 [(0, .ref (a 0))] := hl
  have J_39 : ∀ (n_39 : Nat) (l1 : Int32) (v : V_Md) (H : Heap) (locs : List Loc) (ls : Array Slot), va_P G.1 vwCl (W_Md G a v) H → va_D A (W_Md G a v) → va_S A s.heap H locs → lv_has ls 2 [(0, .ref (a 0)), (1, .int l1)] → f_Md_mendAll_39 n_39 l1 v = some q → W p l e (rmk 6 139) s m args below meth c H locs 0 0 (MQ below (qI G A (W_Md G a q.2) (q.1)) args s 0 0 A) (F0 m 39 ls []) := by
    intro n_39
    induction n_39 with
    | zero => intro l1 v H locs ls hP hD hS hl hf; exact absurd hf (by unfold f_Md_mendAll_39; exact fun z => by cases z)
    | succ n_39 ih_39 =>
      intro l1 v H locs ls hP hD hS hl hf
      rw [f_Md_mendAll_39] at hf
      refine lv_aload_n hx hb d_Md_mendAll_39 rfl (lv_at hl 0 rfl) ?_
      refine va_get (D := G.1) (ci := 9) (v := .ref (a 2)) (C := R_Md) (T := T_Md) (N := 9) hx hb hts in_Md hown hK hP 0 rfl rfl 1 (by decide) (hts _ k_754) (fun _ h9 => h9) rfl d_Md_mendAll_40 ?_
      refine lv_bipush (v := (59 : Int32)) hx hb d_Md_mendAll_43 (by decide) ?_
      obtain ⟨g_45, hf⟩ := og_e hf
      refine va_iald hx hb hK hP 2 0 rfl rfl g_45 d_Md_mendAll_45 ?_
      refine lv_iconst (v := (1 : Int32)) hx hb d_Md_mendAll_46 (by decide) ?_
      refine lv_icmp_ne (tgt := 64) hx hb d_Md_mendAll_47 (by decide) (fun c_47 => ?_) (fun c_47 => ?_)
      · replace hf := ob_ef c_47 hf
        refine lv_aload_n hx hb d_Md_mendAll_64 rfl (lv_at hl 0 rfl) ?_
        refine va_get (D := G.1) (ci := 9) (v := .ref (a 2)) (C := R_Md) (T := T_Md) (N := 9) hx hb hts in_Md hown hK hP 0 rfl rfl 1 (by decide) (hts _ k_754) (fun _ h9 => h9) rfl d_Md_mendAll_65 ?_
        refine lv_bipush (v := (64 : Int32)) hx hb d_Md_mendAll_68 (by decide) ?_
        obtain ⟨g_70, hf⟩ := og_e hf
        refine va_iald hx hb hK hP 2 0 rfl rfl g_70 d_Md_mendAll_70 ?_
        refine lv_iload_n hx hb d_Md_mendAll_71 rfl (lv_at hl 1 rfl) ?_
        refine lv_isub hx hb d_Md_mendAll_72 ?_
        cases hf
        exact kI hx hb hr hlk hP hD hS d_Md_mendAll_73
      · replace hf := ob_et c_47 hf
        refine lv_aload_n hx hb d_Md_mendAll_50 rfl (lv_at hl 0 rfl) ?_
        refine va_get (D := G.1) (ci := 9) (v := .ref (a 2)) (C := R_Md) (T := T_Md) (N := 9) hx hb hts in_Md hown hK hP 0 rfl rfl 1 (by decide) (hts _ k_754) (fun _ h9 => h9) rfl d_Md_mendAll_51 ?_
        refine lv_sipush (v := (999 : Int32)) hx hb d_Md_mendAll_54 (by decide) ?_
        obtain ⟨q_57, hc_57, hf⟩ := oc_e hf
        refine kcS (cc := c_Md_mendAll) (own := "FloodDiaryModel") (index := 154) (wc := W_Row G 2400 (a 2) v.2.1) (wr := O_Md G a v ++ (W_Row G 2400 (a 1) v.1 ++ (W_Row G 14400 (a 3) v.2.2.1 ++ (W_Row G 4800 (a 4) v.2.2.2.2.1 ++ (W_RowZ G 2 (a 5) v.2.2.2.2.2.1 ++ (W_Row G 80 (a 6) v.2.2.2.2.2.2.1 ++ (([] : va_W)))))))) (wc' := W_Row G 2400 (a 2) q_57.2) (ws' := W_Md G a (v.1, q_57.2, v.2.2.1, v.2.2.2.1, v.2.2.2.2.1, v.2.2.2.2.2.1, v.2.2.2.2.2.2.1, v.2.2.2.2.2.2.2.1, v.2.2.2.2.2.2.2.2)) hx hb hml hown hts hK hN hA hP hD hS (t_Md_mendOn l G (a 2) (999 : Int32) v.2.1 q_57 hc_57) m_Md_mendOn k_912 ⟨Nat.le_of_ble_eq_true rfl, Nat.le_of_ble_eq_true rfl⟩ (pm_14 (O_Md G a v) (W_Row G 2400 (a 1) v.1) (W_Row G 2400 (a 2) v.2.1) (W_Row G 14400 (a 3) v.2.2.1) (W_Row G 4800 (a 4) v.2.2.2.2.1) (W_RowZ G 2 (a 5) v.2.2.2.2.2.1) (W_Row G 80 (a 6) v.2.2.2.2.2.2.1)) (pm_14 (O_Md G a (v.1, q_57.2, v.2.2.1, v.2.2.2.1, v.2.2.2.2.1, v.2.2.2.2.2.1, v.2.2.2.2.2.2.1, v.2.2.2.2.2.2.2.1, v.2.2.2.2.2.2.2.2)) (W_Row G 2400 (a 1) v.1) (W_Row G 2400 (a 2) q_57.2) (W_Row G 14400 (a 3) v.2.2.1) (W_Row G 4800 (a 4) v.2.2.2.2.1) (W_RowZ G 2 (a 5) v.2.2.2.2.2.1) (W_Row G 80 (a 6) v.2.2.2.2.2.2.1)).symm rfl rfl (Nat.le_of_ble_eq_true rfl) hl.1 d_Md_mendAll_57 ⟨Nat.zero_le _, Nat.zero_le _⟩ (fun H locs hP hD hS => ?_)
        refine lv_pop hx hb d_Md_mendAll_60 rfl ?_
        refine lv_goto (tgt := 39) hx hb d_Md_mendAll_61 (by decide) ?_
        exact ih_39 l1 (v.1, q_57.2, v.2.2.1, v.2.2.2.1, v.2.2.2.2.1, v.2.2.2.2.2.1, v.2.2.2.2.2.2.1, v.2.2.2.2.2.2.2.1, v.2.2.2.2.2.2.2.2) _ _ ls hP hD hS (lv_sub hl [0, 1] rfl) hf
  unfold f_Md_mendAll at hf
  refine lv_aload_n hx hb d_Md_mendAll_0 rfl (lv_at hl 0 rfl) ?_
  refine va_get (D := G.1) (ci := 9) (v := .ref (a 1)) (C := R_Md) (T := T_Md) (N := 9) hx hb hts in_Md hown hK hP 0 rfl rfl 0 (by decide) (hts _ k_753) (fun _ h9 => h9) rfl d_Md_mendAll_1 ?_
  refine lv_iconst (v := (0 : Int32)) hx hb d_Md_mendAll_4 (by decide) ?_
  refine lv_aload_n hx hb d_Md_mendAll_5 rfl (lv_at hl 0 rfl) ?_
  refine va_get (D := G.1) (ci := 9) (v := .ref (a 2)) (C := R_Md) (T := T_Md) (N := 9) hx hb hts in_Md hown hK hP 0 rfl rfl 1 (by decide) (hts _ k_754) (fun _ h9 => h9) rfl d_Md_mendAll_6 ?_
  refine lv_iconst (v := (0 : Int32)) hx hb d_Md_mendAll_9 (by decide) ?_
  obtain ⟨q_10, hc_10, hf⟩ := oc_e hf
  refine kcSv (cc := c_Md_mendAll) (own := "FloodDiaryModel") (index := 86) (wc := W_Row G 2400 (a 1) v.1 ++ W_Row G 2400 (a 2) v.2.1) (wr := O_Md G a v ++ (W_Row G 14400 (a 3) v.2.2.1 ++ (W_Row G 4800 (a 4) v.2.2.2.2.1 ++ (W_RowZ G 2 (a 5) v.2.2.2.2.2.1 ++ (W_Row G 80 (a 6) v.2.2.2.2.2.2.1 ++ (([] : va_W))))))) (wc' := W_Row G 2400 (a 1) v.1 ++ W_Row G 2400 (a 2) q_10) (ws' := W_Md G a (v.1, q_10, v.2.2.1, v.2.2.2.1, v.2.2.2.2.1, v.2.2.2.2.2.1, v.2.2.2.2.2.2.1, v.2.2.2.2.2.2.2.1, v.2.2.2.2.2.2.2.2)) hx hb hml hown hts hK hN hA hP hD hS (t_Md_copyState l G (a 1) (a 2) 2400 2400 (0 : Int32) (0 : Int32) v.1 v.2.1 q_10 hc_10) m_Md_copyState k_793 ⟨Nat.le_of_ble_eq_true rfl, Nat.le_of_ble_eq_true rfl⟩ (pm_13 (O_Md G a v) (W_Row G 2400 (a 1) v.1) (W_Row G 2400 (a 2) v.2.1) (W_Row G 14400 (a 3) v.2.2.1) (W_Row G 4800 (a 4) v.2.2.2.2.1) (W_RowZ G 2 (a 5) v.2.2.2.2.2.1) (W_Row G 80 (a 6) v.2.2.2.2.2.2.1)) (pm_13 (O_Md G a (v.1, q_10, v.2.2.1, v.2.2.2.1, v.2.2.2.2.1, v.2.2.2.2.2.1, v.2.2.2.2.2.2.1, v.2.2.2.2.2.2.2.1, v.2.2.2.2.2.2.2.2)) (W_Row G 2400 (a 1) v.1) (W_Row G 2400 (a 2) q_10) (W_Row G 14400 (a 3) v.2.2.1) (W_Row G 4800 (a 4) v.2.2.2.2.1) (W_RowZ G 2 (a 5) v.2.2.2.2.2.1) (W_Row G 80 (a 6) v.2.2.2.2.2.2.1)).symm rfl rfl (Nat.le_of_ble_eq_true rfl) hl.1 d_Md_mendAll_10 ⟨Nat.zero_le _, Nat.zero_le _⟩ (fun H locs hP hD hS => ?_)
  refine lv_aload_n hx hb d_Md_mendAll_13 rfl (lv_at hl 0 rfl) ?_
  refine va_get (D := G.1) (ci := 9) (v := .ref (a 2)) (C := R_Md) (T := T_Md) (N := 9) hx hb hts in_Md hown hK hP 0 rfl rfl 1 (by decide) (hts _ k_754) (fun _ h9 => h9) rfl d_Md_mendAll_14 ?_
  refine lv_bipush (v := (59 : Int32)) hx hb d_Md_mendAll_17 (by decide) ?_
  obtain ⟨g_19, hf⟩ := og_e hf
  refine va_iald hx hb hK hP 2 0 rfl rfl g_19 d_Md_mendAll_19 ?_
  refine lv_if_ne (tgt := 31) hx hb d_Md_mendAll_20 (by decide) (fun c_20 => ?_) (fun c_20 => ?_)
  · replace hf := ob_ef c_20 hf
    refine lv_aload_n hx hb d_Md_mendAll_31 rfl (lv_at hl 0 rfl) ?_
    refine va_get (D := G.1) (ci := 9) (v := .ref (a 2)) (C := R_Md) (T := T_Md) (N := 9) hx hb hts in_Md hown hK hP 0 rfl rfl 1 (by decide) (hts _ k_754) (fun _ h9 => h9) rfl d_Md_mendAll_32 ?_
    refine lv_bipush (v := (64 : Int32)) hx hb d_Md_mendAll_35 (by decide) ?_
    obtain ⟨g_37, hf⟩ := og_e hf
    refine va_iald hx hb hK hP 2 0 rfl rfl g_37 d_Md_mendAll_37 ?_
    refine lv_istore_n (lv' := [(1, .int (q_10 (64 : Int32).toNatClampNeg)), (0, .ref (a 0))]) hx hb d_Md_mendAll_38 rfl hl (by decide) rfl (fun ls hl => ?_)
    exact J_39 FU (q_10 (64 : Int32).toNatClampNeg) (v.1, q_10, v.2.2.1, v.2.2.2.1, v.2.2.2.2.1, v.2.2.2.2.2.1, v.2.2.2.2.2.2.1, v.2.2.2.2.2.2.2.1, v.2.2.2.2.2.2.2.2) _ _ ls hP hD hS (lv_sub hl [1, 0] rfl) hf
  · replace hf := ob_et c_20 hf
    refine lv_aload_n hx hb d_Md_mendAll_23 rfl (lv_at hl 0 rfl) ?_
    refine va_get (D := G.1) (ci := 9) (v := .ref (a 2)) (C := R_Md) (T := T_Md) (N := 9) hx hb hts in_Md hown hK hP 0 rfl rfl 1 (by decide) (hts _ k_754) (fun _ h9 => h9) rfl d_Md_mendAll_24 ?_
    obtain ⟨q_27, hc_27, hf⟩ := oc_e hf
    refine kcS (cc := c_Md_mendAll) (own := "FloodDiaryModel") (index := 149) (wc := W_Row G 2400 (a 2) q_10) (wr := O_Md G a (v.1, q_10, v.2.2.1, v.2.2.2.1, v.2.2.2.2.1, v.2.2.2.2.2.1, v.2.2.2.2.2.2.1, v.2.2.2.2.2.2.2.1, v.2.2.2.2.2.2.2.2) ++ (W_Row G 2400 (a 1) v.1 ++ (W_Row G 14400 (a 3) v.2.2.1 ++ (W_Row G 4800 (a 4) v.2.2.2.2.1 ++ (W_RowZ G 2 (a 5) v.2.2.2.2.2.1 ++ (W_Row G 80 (a 6) v.2.2.2.2.2.2.1 ++ (([] : va_W)))))))) (wc' := W_Row G 2400 (a 2) q_27.2) (ws' := W_Md G a (v.1, q_27.2, v.2.2.1, v.2.2.2.1, v.2.2.2.2.1, v.2.2.2.2.2.1, v.2.2.2.2.2.2.1, v.2.2.2.2.2.2.2.1, v.2.2.2.2.2.2.2.2)) hx hb hml hown hts hK hN hA hP hD hS (t_Md_floodOn l G (a 2) q_10 q_27 hc_27) m_Md_floodOn k_897 ⟨Nat.le_of_ble_eq_true rfl, Nat.le_of_ble_eq_true rfl⟩ (pm_14 (O_Md G a (v.1, q_10, v.2.2.1, v.2.2.2.1, v.2.2.2.2.1, v.2.2.2.2.2.1, v.2.2.2.2.2.2.1, v.2.2.2.2.2.2.2.1, v.2.2.2.2.2.2.2.2)) (W_Row G 2400 (a 1) v.1) (W_Row G 2400 (a 2) q_10) (W_Row G 14400 (a 3) v.2.2.1) (W_Row G 4800 (a 4) v.2.2.2.2.1) (W_RowZ G 2 (a 5) v.2.2.2.2.2.1) (W_Row G 80 (a 6) v.2.2.2.2.2.2.1)) (pm_14 (O_Md G a (v.1, q_27.2, v.2.2.1, v.2.2.2.1, v.2.2.2.2.1, v.2.2.2.2.2.1, v.2.2.2.2.2.2.1, v.2.2.2.2.2.2.2.1, v.2.2.2.2.2.2.2.2)) (W_Row G 2400 (a 1) v.1) (W_Row G 2400 (a 2) q_27.2) (W_Row G 14400 (a 3) v.2.2.1) (W_Row G 4800 (a 4) v.2.2.2.2.1) (W_RowZ G 2 (a 5) v.2.2.2.2.2.1) (W_Row G 80 (a 6) v.2.2.2.2.2.2.1)).symm rfl rfl (Nat.le_of_ble_eq_true rfl) hl.1 d_Md_mendAll_27 ⟨Nat.zero_le _, Nat.zero_le _⟩ (fun H locs hP hD hS => ?_)
    refine lv_pop hx hb d_Md_mendAll_30 rfl ?_
    refine lv_aload_n hx hb d_Md_mendAll_31 rfl (lv_at hl 0 rfl) ?_
    refine va_get (D := G.1) (ci := 9) (v := .ref (a 2)) (C := R_Md) (T := T_Md) (N := 9) hx hb hts in_Md hown hK hP 0 rfl rfl 1 (by decide) (hts _ k_754) (fun _ h9 => h9) rfl d_Md_mendAll_32 ?_
    refine lv_bipush (v := (64 : Int32)) hx hb d_Md_mendAll_35 (by decide) ?_
    obtain ⟨g_37, hf⟩ := og_e hf
    refine va_iald hx hb hK hP 2 0 rfl rfl g_37 d_Md_mendAll_37 ?_
    refine lv_istore_n (lv' := [(1, .int (q_27.2 (64 : Int32).toNatClampNeg)), (0, .ref (a 0))]) hx hb d_Md_mendAll_38 rfl hl (by decide) rfl (fun ls hl => ?_)
    exact J_39 FU (q_27.2 (64 : Int32).toNatClampNeg) (v.1, q_27.2, v.2.2.1, v.2.2.2.1, v.2.2.2.2.1, v.2.2.2.2.2.1, v.2.2.2.2.2.2.1, v.2.2.2.2.2.2.2.1, v.2.2.2.2.2.2.2.2) _ _ ls hP hD hS (lv_sub hl [1, 0] rfl) hf
set_option maxHeartbeats 4000000 in
set_option maxRecDepth 100000 in
theorem t_Md_stepsToMend (l : Launch) (G : GG) (a : Nat → Nat) (v : V_Md) (q : Int32 × V_Md) (hf : f_Md_stepsToMend v = some q) : MI l G y_Md_stepsToMend c_Md_stepsToMend 1 (some .int) (rmk 7 160) (W_Md G a v) [.ref (a 0)] (W_Md G a q.2) (q.1) := by
  refine ofI "FloodDiaryModel" (by decide +kernel) rfl (Nat.le_of_ble_eq_true rfl) (fun p e s m args below meth c A ls hx hb hr hml hown hts hlk hK hN hA hP hD hS hl => ?_)
  have hl : lv_has ls 1 [(0, .ref (a 0))] := hl
  unfold f_Md_stepsToMend at hf
  refine lv_aload_n hx hb d_Md_stepsToMend_0 rfl (lv_at hl 0 rfl) ?_
  obtain ⟨q_1, hc_1, hf⟩ := oc_e hf
  refine kcV (cc := c_Md_stepsToMend) (own := "FloodDiaryModel") (index := 163) (wc := W_Md G a v) (wr := ([] : va_W)) (wc' := W_Md G a q_1.2) (ws' := W_Md G a q_1.2) hx hb hml hown hts hK hN hA hP hD hS (t_Md_mendAll l G a v q_1 hc_1) m_Md_mendAll k_951 ⟨Nat.le_of_ble_eq_true rfl, Nat.le_of_ble_eq_true rfl⟩ (pm_0 (W_Md G a v)) (pm_0 (W_Md G a q_1.2)).symm 9 0 rfl rfl rfl rfl rfl (Nat.le_of_ble_eq_true rfl) hl.1 d_Md_stepsToMend_1 ⟨Nat.zero_le _, Nat.zero_le _⟩ (fun H locs hP hD hS => ?_)
  cases hf
  exact kI hx hb hr hlk hP hD hS d_Md_stepsToMend_4
set_option maxHeartbeats 4000000 in
set_option maxRecDepth 100000 in
theorem t_Md_wouldBe (l : Launch) (G : GG) (a : Nat → Nat) (l1 : Int32) (v : V_Md) (q : Int32 × V_Md) (hf : f_Md_wouldBe l1 v = some q) : MI l G y_Md_wouldBe c_Md_wouldBe 2 (some .int) (rmk 7 160) (W_Md G a v) [.ref (a 0), .int l1] (W_Md G a q.2) (q.1) := by
  refine ofI "FloodDiaryModel" (by decide +kernel) rfl (Nat.le_of_ble_eq_true rfl) (fun p e s m args below meth c A ls hx hb hr hml hown hts hlk hK hN hA hP hD hS hl => ?_)
  have hl : lv_has ls 2 [(0, .ref (a 0)), (1, .int l1)] := hl
  unfold f_Md_wouldBe at hf
  refine lv_iload_n hx hb d_Md_wouldBe_0 rfl (lv_at hl 1 rfl) ?_
  obtain ⟨q_1, hc_1, hf⟩ := oc_e hf
  refine kcS (cc := c_Md_wouldBe) (own := "FloodDiaryModel") (index := 103) (wc := ([] : va_W)) (wr := W_Md G a v) (wc' := ([] : va_W)) (ws' := W_Md G a v) hx hb hml hown hts hK hN hA hP hD hS (t_Md_isPage l G l1 q_1 hc_1) m_Md_isPage k_821 ⟨Nat.le_of_ble_eq_true rfl, Nat.le_of_ble_eq_true rfl⟩ (List.Perm.refl _) (List.Perm.refl _) rfl rfl (Nat.le_of_ble_eq_true rfl) hl.1 d_Md_wouldBe_1 ⟨Nat.zero_le _, Nat.zero_le _⟩ (fun H locs hP hD hS => ?_)
  refine lv_if_ne (tgt := 9) hx hb d_Md_wouldBe_4 (by decide) (fun c_4 => ?_) (fun c_4 => ?_)
  · replace hf := ob_ef c_4 hf
    refine lv_aload_n hx hb d_Md_wouldBe_9 rfl (lv_at hl 0 rfl) ?_
    obtain ⟨q_10, hc_10, hf⟩ := oc_e hf
    refine kcV (cc := c_Md_wouldBe) (own := "FloodDiaryModel") (index := 163) (wc := W_Md G a v) (wr := ([] : va_W)) (wc' := W_Md G a q_10.2) (ws' := W_Md G a q_10.2) hx hb hml hown hts hK hN hA hP hD hS (t_Md_mendAll l G a v q_10 hc_10) m_Md_mendAll k_951 ⟨Nat.le_of_ble_eq_true rfl, Nat.le_of_ble_eq_true rfl⟩ (pm_0 (W_Md G a v)) (pm_0 (W_Md G a q_10.2)).symm 9 0 rfl rfl rfl rfl rfl (Nat.le_of_ble_eq_true rfl) hl.1 d_Md_wouldBe_10 ⟨Nat.zero_le _, Nat.zero_le _⟩ (fun H locs hP hD hS => ?_)
    refine lv_pop hx hb d_Md_wouldBe_13 rfl ?_
    refine lv_aload_n hx hb d_Md_wouldBe_14 rfl (lv_at hl 0 rfl) ?_
    refine va_get (D := G.1) (ci := 9) (v := .ref (a 2)) (C := R_Md) (T := T_Md) (N := 9) hx hb hts in_Md hown hK hP 0 rfl rfl 1 (by decide) (hts _ k_754) (fun _ h9 => h9) rfl d_Md_wouldBe_15 ?_
    refine lv_iload_n hx hb d_Md_wouldBe_18 rfl (lv_at hl 1 rfl) ?_
    obtain ⟨q_19, hc_19, hf⟩ := oc_e hf
    refine kcS (cc := c_Md_wouldBe) (own := "FloodDiaryModel") (index := 167) (wc := W_Row G 2400 (a 2) q_10.2.2.1) (wr := O_Md G a q_10.2 ++ (W_Row G 2400 (a 1) q_10.2.1 ++ (W_Row G 14400 (a 3) q_10.2.2.2.1 ++ (W_Row G 4800 (a 4) q_10.2.2.2.2.2.1 ++ (W_RowZ G 2 (a 5) q_10.2.2.2.2.2.2.1 ++ (W_Row G 80 (a 6) q_10.2.2.2.2.2.2.2.1 ++ (([] : va_W)))))))) (wc' := W_Row G 2400 (a 2) q_10.2.2.1) (ws' := W_Md G a q_10.2) hx hb hml hown hts hK hN hA hP hD hS (t_Md_valueOf l G (a 2) l1 q_10.2.2.1 q_19 hc_19) m_Md_valueOf k_959 ⟨Nat.le_of_ble_eq_true rfl, Nat.le_of_ble_eq_true rfl⟩ (pm_14 (O_Md G a q_10.2) (W_Row G 2400 (a 1) q_10.2.1) (W_Row G 2400 (a 2) q_10.2.2.1) (W_Row G 14400 (a 3) q_10.2.2.2.1) (W_Row G 4800 (a 4) q_10.2.2.2.2.2.1) (W_RowZ G 2 (a 5) q_10.2.2.2.2.2.2.1) (W_Row G 80 (a 6) q_10.2.2.2.2.2.2.2.1)) (pm_14 (O_Md G a q_10.2) (W_Row G 2400 (a 1) q_10.2.1) (W_Row G 2400 (a 2) q_10.2.2.1) (W_Row G 14400 (a 3) q_10.2.2.2.1) (W_Row G 4800 (a 4) q_10.2.2.2.2.2.1) (W_RowZ G 2 (a 5) q_10.2.2.2.2.2.2.1) (W_Row G 80 (a 6) q_10.2.2.2.2.2.2.2.1)).symm rfl rfl (Nat.le_of_ble_eq_true rfl) hl.1 d_Md_wouldBe_19 ⟨Nat.zero_le _, Nat.zero_le _⟩ (fun H locs hP hD hS => ?_)
    cases hf
    exact kI hx hb hr hlk hP hD hS d_Md_wouldBe_22
  · replace hf := ob_et c_4 hf
    refine lv_iconst (v := (-1 : Int32)) hx hb d_Md_wouldBe_7 (by decide) ?_
    cases hf
    exact kI hx hb hr hlk hP hD hS d_Md_wouldBe_8
set_option maxHeartbeats 4000000 in
set_option maxRecDepth 100000 in
theorem t_Md_endsSaved (l : Launch) (G : GG) (a : Nat → Nat) (l1 : Int32) (v : V_Md) (q : Int32) (hf : f_Md_endsSaved l1 v = some q) : MI l G y_Md_endsSaved c_Md_endsSaved 3 (some .boolean) (rmk 1 20) (W_Md G a v) [.ref (a 0), .int l1] (W_Md G a v) (q) := by
  refine ofI "FloodDiaryModel" (by decide +kernel) rfl (Nat.le_of_ble_eq_true rfl) (fun p e s m args below meth c A ls hx hb hr hml hown hts hlk hK hN hA hP hD hS hl => ?_)
  have hl : lv_has ls 3 [(0, .ref (a 0)), (1, .int l1)] := hl
  have J_2 : ∀ (n_2 : Nat) (l1 : Int32) (l2 : Int32) (v : V_Md) (H : Heap) (locs : List Loc) (ls : Array Slot), va_P G.1 vwCl (W_Md G a v) H → va_D A (W_Md G a v) → va_S A s.heap H locs → lv_has ls 3 [(0, .ref (a 0)), (1, .int l1), (2, .int l2)] → f_Md_endsSaved_2 n_2 l1 l2 v = some q → W p l e (rmk 1 20) s m args below meth c H locs 0 0 (MQ below (qI G A (W_Md G a v) (q)) args s 0 0 A) (F0 m 2 ls []) := by
    intro n_2
    induction n_2 with
    | zero => intro l1 l2 v H locs ls hP hD hS hl hf; exact absurd hf (by unfold f_Md_endsSaved_2; exact fun z => by cases z)
    | succ n_2 ih_2 =>
      intro l1 l2 v H locs ls hP hD hS hl hf
      rw [f_Md_endsSaved_2] at hf
      refine lv_iload_n hx hb d_Md_endsSaved_2 rfl (lv_at hl 2 rfl) ?_
      refine lv_aload_n hx hb d_Md_endsSaved_3 rfl (lv_at hl 0 rfl) ?_
      refine va_get (D := G.1) (ci := 9) (v := .ref (a 1)) (C := R_Md) (T := T_Md) (N := 9) hx hb hts in_Md hown hK hP 0 rfl rfl 0 (by decide) (hts _ k_753) (fun _ h9 => h9) rfl d_Md_endsSaved_4 ?_
      refine lv_bipush (v := (58 : Int32)) hx hb d_Md_endsSaved_7 (by decide) ?_
      obtain ⟨g_9, hf⟩ := og_e hf
      refine va_iald hx hb hK hP 1 0 rfl rfl g_9 d_Md_endsSaved_9 ?_
      refine lv_icmp_gt (tgt := 66) hx hb d_Md_endsSaved_10 (by decide) (fun c_10 => ?_) (fun c_10 => ?_)
      · replace hf := ob_et c_10 hf
        refine lv_iconst (v := (0 : Int32)) hx hb d_Md_endsSaved_66 (by decide) ?_
        cases hf
        exact kZ hx hb hr hlk hP hD hS (Or.inl rfl) d_Md_endsSaved_67
      · replace hf := ob_ef c_10 hf
        refine lv_aload_n hx hb d_Md_endsSaved_13 rfl (lv_at hl 0 rfl) ?_
        refine va_get (D := G.1) (ci := 9) (v := .ref (a 1)) (C := R_Md) (T := T_Md) (N := 9) hx hb hts in_Md hown hK hP 0 rfl rfl 0 (by decide) (hts _ k_753) (fun _ h9 => h9) rfl d_Md_endsSaved_14 ?_
        refine lv_iload_n hx hb d_Md_endsSaved_17 rfl (lv_at hl 2 rfl) ?_
        obtain ⟨q_18, hc_18, hf⟩ := oc_e hf
        refine kcS (cc := c_Md_endsSaved) (own := "FloodDiaryModel") (index := 43) (wc := ([] : va_W)) (wr := W_Md G a v) (wc' := ([] : va_W)) (ws' := W_Md G a v) hx hb hml hown hts hK hN hA hP hD hS (t_Md_at l G l2 q_18 hc_18) m_Md_at k_805 ⟨Nat.le_of_ble_eq_true rfl, Nat.le_of_ble_eq_true rfl⟩ (List.Perm.refl _) (List.Perm.refl _) rfl rfl (Nat.le_of_ble_eq_true rfl) hl.1 d_Md_endsSaved_18 ⟨Nat.zero_le _, Nat.zero_le _⟩ (fun H locs hP hD hS => ?_)
        refine lv_iconst (v := (1 : Int32)) hx hb d_Md_endsSaved_21 (by decide) ?_
        refine lv_iadd hx hb d_Md_endsSaved_22 ?_
        obtain ⟨g_23, hf⟩ := og_e hf
        refine va_iald hx hb hK hP 1 0 rfl rfl g_23 d_Md_endsSaved_23 ?_
        refine lv_iload_n hx hb d_Md_endsSaved_24 rfl (lv_at hl 1 rfl) ?_
        refine lv_icmp_ne (tgt := 60) hx hb d_Md_endsSaved_25 (by decide) (fun c_25 => ?_) (fun c_25 => ?_)
        · replace hf := ob_ef c_25 hf
          refine lv_iinc (v := (l2 + (1 : Int32))) (lv' := [(2, .int (l2 + (1 : Int32))), (0, .ref (a 0)), (1, .int l1)]) hx hb d_Md_endsSaved_60 hl (k := 2) rfl rfl (by decide) rfl (fun ls hl => ?_)
          refine lv_goto (tgt := 2) hx hb d_Md_endsSaved_63 (by decide) ?_
          exact ih_2 l1 (l2 + (1 : Int32)) v _ _ ls hP hD hS (lv_sub hl [1, 2, 0] rfl) hf
        · replace hf := ob_et c_25 hf
          refine lv_aload_n hx hb d_Md_endsSaved_28 rfl (lv_at hl 0 rfl) ?_
          refine va_get (D := G.1) (ci := 9) (v := .ref (a 1)) (C := R_Md) (T := T_Md) (N := 9) hx hb hts in_Md hown hK hP 0 rfl rfl 0 (by decide) (hts _ k_753) (fun _ h9 => h9) rfl d_Md_endsSaved_29 ?_
          refine lv_iload_n hx hb d_Md_endsSaved_32 rfl (lv_at hl 2 rfl) ?_
          obtain ⟨q_33, hc_33, hf⟩ := oc_e hf
          refine kcS (cc := c_Md_endsSaved) (own := "FloodDiaryModel") (index := 43) (wc := ([] : va_W)) (wr := W_Md G a v) (wc' := ([] : va_W)) (ws' := W_Md G a v) hx hb hml hown hts hK hN hA hP hD hS (t_Md_at l G l2 q_33 hc_33) m_Md_at k_805 ⟨Nat.le_of_ble_eq_true rfl, Nat.le_of_ble_eq_true rfl⟩ (List.Perm.refl _) (List.Perm.refl _) rfl rfl (Nat.le_of_ble_eq_true rfl) hl.1 d_Md_endsSaved_33 ⟨Nat.zero_le _, Nat.zero_le _⟩ (fun H locs hP hD hS => ?_)
          refine lv_iconst (v := (0 : Int32)) hx hb d_Md_endsSaved_36 (by decide) ?_
          refine lv_iadd hx hb d_Md_endsSaved_37 ?_
          obtain ⟨g_38, hf⟩ := og_e hf
          refine va_iald hx hb hK hP 1 0 rfl rfl g_38 d_Md_endsSaved_38 ?_
          refine lv_iconst (v := (3 : Int32)) hx hb d_Md_endsSaved_39 (by decide) ?_
          refine lv_icmp_eq (tgt := 58) hx hb d_Md_endsSaved_40 (by decide) (fun c_40 => ?_) (fun c_40 => ?_)
          · replace hf := ob_et c_40 hf
            refine lv_iconst (v := (1 : Int32)) hx hb d_Md_endsSaved_58 (by decide) ?_
            cases hf
            exact kZ hx hb hr hlk hP hD hS (Or.inr rfl) d_Md_endsSaved_59
          · replace hf := ob_ef c_40 hf
            refine lv_aload_n hx hb d_Md_endsSaved_43 rfl (lv_at hl 0 rfl) ?_
            refine va_get (D := G.1) (ci := 9) (v := .ref (a 1)) (C := R_Md) (T := T_Md) (N := 9) hx hb hts in_Md hown hK hP 0 rfl rfl 0 (by decide) (hts _ k_753) (fun _ h9 => h9) rfl d_Md_endsSaved_44 ?_
            refine lv_iload_n hx hb d_Md_endsSaved_47 rfl (lv_at hl 2 rfl) ?_
            obtain ⟨q_48, hc_48, hf⟩ := oc_e hf
            refine kcS (cc := c_Md_endsSaved) (own := "FloodDiaryModel") (index := 43) (wc := ([] : va_W)) (wr := W_Md G a v) (wc' := ([] : va_W)) (ws' := W_Md G a v) hx hb hml hown hts hK hN hA hP hD hS (t_Md_at l G l2 q_48 hc_48) m_Md_at k_805 ⟨Nat.le_of_ble_eq_true rfl, Nat.le_of_ble_eq_true rfl⟩ (List.Perm.refl _) (List.Perm.refl _) rfl rfl (Nat.le_of_ble_eq_true rfl) hl.1 d_Md_endsSaved_48 ⟨Nat.zero_le _, Nat.zero_le _⟩ (fun H locs hP hD hS => ?_)
            refine lv_iconst (v := (0 : Int32)) hx hb d_Md_endsSaved_51 (by decide) ?_
            refine lv_iadd hx hb d_Md_endsSaved_52 ?_
            obtain ⟨g_53, hf⟩ := og_e hf
            refine va_iald hx hb hK hP 1 0 rfl rfl g_53 d_Md_endsSaved_53 ?_
            refine lv_iconst (v := (4 : Int32)) hx hb d_Md_endsSaved_54 (by decide) ?_
            refine lv_icmp_ne (tgt := 60) hx hb d_Md_endsSaved_55 (by decide) (fun c_55 => ?_) (fun c_55 => ?_)
            · replace hf := ob_ef c_55 hf
              refine lv_iinc (v := (l2 + (1 : Int32))) (lv' := [(2, .int (l2 + (1 : Int32))), (0, .ref (a 0)), (1, .int l1)]) hx hb d_Md_endsSaved_60 hl (k := 2) rfl rfl (by decide) rfl (fun ls hl => ?_)
              refine lv_goto (tgt := 2) hx hb d_Md_endsSaved_63 (by decide) ?_
              exact ih_2 l1 (l2 + (1 : Int32)) v _ _ ls hP hD hS (lv_sub hl [1, 2, 0] rfl) hf
            · replace hf := ob_et c_55 hf
              refine lv_iconst (v := (1 : Int32)) hx hb d_Md_endsSaved_58 (by decide) ?_
              cases hf
              exact kZ hx hb hr hlk hP hD hS (Or.inr rfl) d_Md_endsSaved_59
  unfold f_Md_endsSaved at hf
  refine lv_iconst (v := (1 : Int32)) hx hb d_Md_endsSaved_0 (by decide) ?_
  refine lv_istore_n (lv' := [(2, .int (1 : Int32)), (0, .ref (a 0)), (1, .int l1)]) hx hb d_Md_endsSaved_1 rfl hl (by decide) rfl (fun ls hl => ?_)
  exact J_2 FU l1 (1 : Int32) v _ _ ls hP hD hS (lv_sub hl [1, 2, 0] rfl) hf
set_option maxHeartbeats 4000000 in
set_option maxRecDepth 100000 in
theorem t_Md_firstNeeded (l : Launch) (G : GG) (a : Nat → Nat) (v : V_Md) (q : Int32) (hf : f_Md_firstNeeded v = some q) : MI l G y_Md_firstNeeded c_Md_firstNeeded 4 (some .int) (rmk 2 42) (W_Md G a v) [.ref (a 0)] (W_Md G a v) (q) := by
  refine ofI "FloodDiaryModel" (by decide +kernel) rfl (Nat.le_of_ble_eq_true rfl) (fun p e s m args below meth c A ls hx hb hr hml hown hts hlk hK hN hA hP hD hS hl => ?_)
  have hl : lv_has ls 4 [(0, .ref (a 0))] := hl
  have J_2 : ∀ (n_2 : Nat) (l1 : Int32) (v : V_Md) (H : Heap) (locs : List Loc) (ls : Array Slot), va_P G.1 vwCl (W_Md G a v) H → va_D A (W_Md G a v) → va_S A s.heap H locs → lv_has ls 4 [(0, .ref (a 0)), (1, .int l1)] → f_Md_firstNeeded_2 n_2 l1 v = some q → W p l e (rmk 2 42) s m args below meth c H locs 0 0 (MQ below (qI G A (W_Md G a v) (q)) args s 0 0 A) (F0 m 2 ls []) := by
    intro n_2
    induction n_2 with
    | zero => intro l1 v H locs ls hP hD hS hl hf; exact absurd hf (by unfold f_Md_firstNeeded_2; exact fun z => by cases z)
    | succ n_2 ih_2 =>
      have J_63 : ∀ (l1 : Int32) (l2 : Int32) (s0 : Int32) (v : V_Md) (H : Heap) (locs : List Loc) (ls : Array Slot), va_P G.1 vwCl (W_Md G a v) H → va_D A (W_Md G a v) → va_S A s.heap H locs → lv_has ls 4 [(0, .ref (a 0)), (1, .int l1), (2, .int l2)] → f_Md_firstNeeded_63 (f_Md_firstNeeded_2 n_2) l1 l2 s0 v = some q → W p l e (rmk 2 42) s m args below meth c H locs 0 0 (MQ below (qI G A (W_Md G a v) (q)) args s 0 0 A) (F0 m 63 ls [.int s0]) := by
        intro l1 l2 s0 v H locs ls hP hD hS hl hf
        unfold f_Md_firstNeeded_63 at hf
        refine lv_istore_n (lv' := [(3, .int s0), (0, .ref (a 0)), (1, .int l1), (2, .int l2)]) hx hb d_Md_firstNeeded_63 rfl hl (by decide) rfl (fun ls hl => ?_)
        refine lv_iload_n hx hb d_Md_firstNeeded_64 rfl (lv_at hl 0 rfl) ?_
        refine lv_if_ne (tgt := 90) hx hb d_Md_firstNeeded_65 (by decide) (fun c_65 => ?_) (fun c_65 => ?_)
        · replace hf := ob_ef c_65 hf
          refine lv_iload_n hx hb d_Md_firstNeeded_90 rfl (lv_at hl 2 rfl) ?_
          cases hf
          exact kI hx hb hr hlk hP hD hS d_Md_firstNeeded_91
        · replace hf := ob_et c_65 hf
          refine lv_iload_n hx hb d_Md_firstNeeded_68 rfl (lv_at hl 3 rfl) ?_
          refine lv_if_ne (tgt := 92) hx hb d_Md_firstNeeded_69 (by decide) (fun c_69 => ?_) (fun c_69 => ?_)
          · replace hf := ob_ef c_69 hf
            refine lv_iinc (v := (l1 + (1 : Int32))) (lv' := [(1, .int (l1 + (1 : Int32))), (3, .int s0), (0, .ref (a 0)), (2, .int l2)]) hx hb d_Md_firstNeeded_92 hl (k := 2) rfl rfl (by decide) rfl (fun ls hl => ?_)
            refine lv_goto (tgt := 2) hx hb d_Md_firstNeeded_95 (by decide) ?_
            exact ih_2 (l1 + (1 : Int32)) v _ _ ls hP hD hS (lv_sub hl [2, 0] rfl) hf
          · replace hf := ob_et c_69 hf
            refine lv_aload_n hx hb d_Md_firstNeeded_72 rfl (lv_at hl 1 rfl) ?_
            refine lv_aload_n hx hb d_Md_firstNeeded_73 rfl (lv_at hl 1 rfl) ?_
            refine va_get (D := G.1) (ci := 9) (v := .ref (a 1)) (C := R_Md) (T := T_Md) (N := 9) hx hb hts in_Md hown hK hP 0 rfl rfl 0 (by decide) (hts _ k_753) (fun _ h9 => h9) rfl d_Md_firstNeeded_74 ?_
            refine lv_iload_n hx hb d_Md_firstNeeded_77 rfl (lv_at hl 2 rfl) ?_
            obtain ⟨q_78, hc_78, hf⟩ := oc_e hf
            refine kcS (cc := c_Md_firstNeeded) (own := "FloodDiaryModel") (index := 43) (wc := ([] : va_W)) (wr := W_Md G a v) (wc' := ([] : va_W)) (ws' := W_Md G a v) hx hb hml hown hts hK hN hA hP hD hS (t_Md_at l G l1 q_78 hc_78) m_Md_at k_805 ⟨Nat.le_of_ble_eq_true rfl, Nat.le_of_ble_eq_true rfl⟩ (List.Perm.refl _) (List.Perm.refl _) rfl rfl (Nat.le_of_ble_eq_true rfl) hl.1 d_Md_firstNeeded_78 ⟨Nat.zero_le _, Nat.zero_le _⟩ (fun H locs hP hD hS => ?_)
            refine lv_iconst (v := (1 : Int32)) hx hb d_Md_firstNeeded_81 (by decide) ?_
            refine lv_iadd hx hb d_Md_firstNeeded_82 ?_
            obtain ⟨g_83, hf⟩ := og_e hf
            refine va_iald hx hb hK hP 1 0 rfl rfl g_83 d_Md_firstNeeded_83 ?_
            obtain ⟨q_84, hc_84, hf⟩ := oc_e hf
            refine kcV (cc := c_Md_firstNeeded) (own := "FloodDiaryModel") (index := 170) (wc := W_Md G a v) (wr := ([] : va_W)) (wc' := W_Md G a v) (ws' := W_Md G a v) hx hb hml hown hts hK hN hA hP hD hS (t_Md_endsSaved l G a (v.1 (q_78 + (1 : Int32)).toNatClampNeg) v q_84 hc_84) m_Md_endsSaved k_966 ⟨Nat.le_of_ble_eq_true rfl, Nat.le_of_ble_eq_true rfl⟩ (pm_0 (W_Md G a v)) (pm_0 (W_Md G a v)).symm 9 0 rfl rfl rfl rfl rfl (Nat.le_of_ble_eq_true rfl) hl.1 d_Md_firstNeeded_84 ⟨Nat.zero_le _, Nat.zero_le _⟩ (fun H locs hP hD hS => ?_)
            refine lv_if_ne (tgt := 92) hx hb d_Md_firstNeeded_87 (by decide) (fun c_87 => ?_) (fun c_87 => ?_)
            · replace hf := ob_ef c_87 hf
              refine lv_iinc (v := (l1 + (1 : Int32))) (lv' := [(1, .int (l1 + (1 : Int32))), (3, .int s0), (0, .ref (a 0)), (2, .int l2)]) hx hb d_Md_firstNeeded_92 hl (k := 2) rfl rfl (by decide) rfl (fun ls hl => ?_)
              refine lv_goto (tgt := 2) hx hb d_Md_firstNeeded_95 (by decide) ?_
              exact ih_2 (l1 + (1 : Int32)) v _ _ ls hP hD hS (lv_sub hl [2, 0] rfl) hf
            · replace hf := ob_et c_87 hf
              refine lv_iload_n hx hb d_Md_firstNeeded_90 rfl (lv_at hl 2 rfl) ?_
              cases hf
              exact kI hx hb hr hlk hP hD hS d_Md_firstNeeded_91
      have J_35 : ∀ (l1 : Int32) (l2 : Int32) (v : V_Md) (H : Heap) (locs : List Loc) (ls : Array Slot), va_P G.1 vwCl (W_Md G a v) H → va_D A (W_Md G a v) → va_S A s.heap H locs → lv_has ls 4 [(0, .ref (a 0)), (1, .int l1), (2, .int l2)] → f_Md_firstNeeded_35 (f_Md_firstNeeded_2 n_2) l1 l2 v = some q → W p l e (rmk 2 42) s m args below meth c H locs 0 0 (MQ below (qI G A (W_Md G a v) (q)) args s 0 0 A) (F0 m 35 ls []) := by
        intro l1 l2 v H locs ls hP hD hS hl hf
        unfold f_Md_firstNeeded_35 at hf
        refine lv_iload_n hx hb d_Md_firstNeeded_35 rfl (lv_at hl 1 rfl) ?_
        refine lv_aload_n hx hb d_Md_firstNeeded_36 rfl (lv_at hl 0 rfl) ?_
        refine va_get (D := G.1) (ci := 9) (v := .ref (a 1)) (C := R_Md) (T := T_Md) (N := 9) hx hb hts in_Md hown hK hP 0 rfl rfl 0 (by decide) (hts _ k_753) (fun _ h9 => h9) rfl d_Md_firstNeeded_37 ?_
        refine lv_bipush (v := (8 : Int32)) hx hb d_Md_firstNeeded_40 (by decide) ?_
        refine lv_aload_n hx hb d_Md_firstNeeded_42 rfl (lv_at hl 0 rfl) ?_
        refine va_get (D := G.1) (ci := 9) (v := .ref (a 1)) (C := R_Md) (T := T_Md) (N := 9) hx hb hts in_Md hown hK hP 0 rfl rfl 0 (by decide) (hts _ k_753) (fun _ h9 => h9) rfl d_Md_firstNeeded_43 ?_
        refine lv_iload_n hx hb d_Md_firstNeeded_46 rfl (lv_at hl 1 rfl) ?_
        obtain ⟨q_47, hc_47, hf⟩ := oc_e hf
        refine kcS (cc := c_Md_firstNeeded) (own := "FloodDiaryModel") (index := 43) (wc := ([] : va_W)) (wr := W_Md G a v) (wc' := ([] : va_W)) (ws' := W_Md G a v) hx hb hml hown hts hK hN hA hP hD hS (t_Md_at l G l1 q_47 hc_47) m_Md_at k_805 ⟨Nat.le_of_ble_eq_true rfl, Nat.le_of_ble_eq_true rfl⟩ (List.Perm.refl _) (List.Perm.refl _) rfl rfl (Nat.le_of_ble_eq_true rfl) hl.1 d_Md_firstNeeded_47 ⟨Nat.zero_le _, Nat.zero_le _⟩ (fun H locs hP hD hS => ?_)
        refine lv_iconst (v := (3 : Int32)) hx hb d_Md_firstNeeded_50 (by decide) ?_
        refine lv_iadd hx hb d_Md_firstNeeded_51 ?_
        obtain ⟨g_52, hf⟩ := og_e hf
        refine va_iald hx hb hK hP 1 0 rfl rfl g_52 d_Md_firstNeeded_52 ?_
        refine lv_iadd hx hb d_Md_firstNeeded_53 ?_
        obtain ⟨g_54, hf⟩ := og_e hf
        refine va_iald hx hb hK hP 1 0 rfl rfl g_54 d_Md_firstNeeded_54 ?_
        refine lv_icmp_le (tgt := 62) hx hb d_Md_firstNeeded_55 (by decide) (fun c_55 => ?_) (fun c_55 => ?_)
        · replace hf := ob_et c_55 hf
          refine lv_iconst (v := (0 : Int32)) hx hb d_Md_firstNeeded_62 (by decide) ?_
          exact J_63 l1 l2 (0 : Int32) v _ _ ls hP hD hS (lv_sub hl [0, 1, 2] rfl) hf
        · replace hf := ob_ef c_55 hf
          refine lv_iconst (v := (1 : Int32)) hx hb d_Md_firstNeeded_58 (by decide) ?_
          refine lv_goto (tgt := 63) hx hb d_Md_firstNeeded_59 (by decide) ?_
          exact J_63 l1 l2 (1 : Int32) v _ _ ls hP hD hS (lv_sub hl [0, 1, 2] rfl) hf
      intro l1 v H locs ls hP hD hS hl hf
      rw [f_Md_firstNeeded_2] at hf
      refine lv_iload_n hx hb d_Md_firstNeeded_2 rfl (lv_at hl 1 rfl) ?_
      refine lv_aload_n hx hb d_Md_firstNeeded_3 rfl (lv_at hl 0 rfl) ?_
      refine va_get (D := G.1) (ci := 9) (v := .ref (a 1)) (C := R_Md) (T := T_Md) (N := 9) hx hb hts in_Md hown hK hP 0 rfl rfl 0 (by decide) (hts _ k_753) (fun _ h9 => h9) rfl d_Md_firstNeeded_4 ?_
      refine lv_bipush (v := (58 : Int32)) hx hb d_Md_firstNeeded_7 (by decide) ?_
      obtain ⟨g_9, hf⟩ := og_e hf
      refine va_iald hx hb hK hP 1 0 rfl rfl g_9 d_Md_firstNeeded_9 ?_
      refine lv_icmp_gt (tgt := 98) hx hb d_Md_firstNeeded_10 (by decide) (fun c_10 => ?_) (fun c_10 => ?_)
      · replace hf := ob_et c_10 hf
        refine lv_bipush (v := (-6 : Int32)) hx hb d_Md_firstNeeded_98 (by decide) ?_
        cases hf
        exact kI hx hb hr hlk hP hD hS d_Md_firstNeeded_100
      · replace hf := ob_ef c_10 hf
        refine lv_aload_n hx hb d_Md_firstNeeded_13 rfl (lv_at hl 0 rfl) ?_
        refine va_get (D := G.1) (ci := 9) (v := .ref (a 1)) (C := R_Md) (T := T_Md) (N := 9) hx hb hts in_Md hown hK hP 0 rfl rfl 0 (by decide) (hts _ k_753) (fun _ h9 => h9) rfl d_Md_firstNeeded_14 ?_
        refine lv_iload_n hx hb d_Md_firstNeeded_17 rfl (lv_at hl 1 rfl) ?_
        obtain ⟨q_18, hc_18, hf⟩ := oc_e hf
        refine kcS (cc := c_Md_firstNeeded) (own := "FloodDiaryModel") (index := 43) (wc := ([] : va_W)) (wr := W_Md G a v) (wc' := ([] : va_W)) (ws' := W_Md G a v) hx hb hml hown hts hK hN hA hP hD hS (t_Md_at l G l1 q_18 hc_18) m_Md_at k_805 ⟨Nat.le_of_ble_eq_true rfl, Nat.le_of_ble_eq_true rfl⟩ (List.Perm.refl _) (List.Perm.refl _) rfl rfl (Nat.le_of_ble_eq_true rfl) hl.1 d_Md_firstNeeded_18 ⟨Nat.zero_le _, Nat.zero_le _⟩ (fun H locs hP hD hS => ?_)
        refine lv_iconst (v := (0 : Int32)) hx hb d_Md_firstNeeded_21 (by decide) ?_
        refine lv_iadd hx hb d_Md_firstNeeded_22 ?_
        obtain ⟨g_23, hf⟩ := og_e hf
        refine va_iald hx hb hK hP 1 0 rfl rfl g_23 d_Md_firstNeeded_23 ?_
        refine lv_istore_n (lv' := [(2, .int (v.1 (q_18 + (0 : Int32)).toNatClampNeg)), (0, .ref (a 0)), (1, .int l1)]) hx hb d_Md_firstNeeded_24 rfl hl (by decide) rfl (fun ls hl => ?_)
        refine lv_iload_n hx hb d_Md_firstNeeded_25 rfl (lv_at hl 0 rfl) ?_
        refine lv_iconst (v := (1 : Int32)) hx hb d_Md_firstNeeded_26 (by decide) ?_
        refine lv_icmp_eq (tgt := 35) hx hb d_Md_firstNeeded_27 (by decide) (fun c_27 => ?_) (fun c_27 => ?_)
        · replace hf := ob_et c_27 hf
          exact J_35 l1 (v.1 (q_18 + (0 : Int32)).toNatClampNeg) v _ _ ls hP hD hS (lv_sub hl [1, 2, 0] rfl) hf
        · replace hf := ob_ef c_27 hf
          refine lv_iload_n hx hb d_Md_firstNeeded_30 rfl (lv_at hl 0 rfl) ?_
          refine lv_iconst (v := (2 : Int32)) hx hb d_Md_firstNeeded_31 (by decide) ?_
          refine lv_icmp_ne (tgt := 62) hx hb d_Md_firstNeeded_32 (by decide) (fun c_32 => ?_) (fun c_32 => ?_)
          · replace hf := ob_ef c_32 hf
            refine lv_iconst (v := (0 : Int32)) hx hb d_Md_firstNeeded_62 (by decide) ?_
            exact J_63 l1 (v.1 (q_18 + (0 : Int32)).toNatClampNeg) (0 : Int32) v _ _ ls hP hD hS (lv_sub hl [1, 2, 0] rfl) hf
          · replace hf := ob_et c_32 hf
            exact J_35 l1 (v.1 (q_18 + (0 : Int32)).toNatClampNeg) v _ _ ls hP hD hS (lv_sub hl [1, 2, 0] rfl) hf
  unfold f_Md_firstNeeded at hf
  refine lv_iconst (v := (1 : Int32)) hx hb d_Md_firstNeeded_0 (by decide) ?_
  refine lv_istore_n (lv' := [(1, .int (1 : Int32)), (0, .ref (a 0))]) hx hb d_Md_firstNeeded_1 rfl hl (by decide) rfl (fun ls hl => ?_)
  exact J_2 FU (1 : Int32) v _ _ ls hP hD hS (lv_sub hl [1, 0] rfl) hf
set_option maxHeartbeats 4000000 in
set_option maxRecDepth 100000 in
theorem t_Md_settled (l : Launch) (G : GG) (a : Nat → Nat) (l1 : Int32) (v : V_Md) (q : Int32) (hf : f_Md_settled l1 v = some q) : MI l G y_Md_settled c_Md_settled 4 (some .int) (rmk 3 65) (W_Md G a v) [.ref (a 0), .int l1] (W_Md G a v) (q) := by
  refine ofI "FloodDiaryModel" (by decide +kernel) rfl (Nat.le_of_ble_eq_true rfl) (fun p e s m args below meth c A ls hx hb hr hml hown hts hlk hK hN hA hP hD hS hl => ?_)
  have hl : lv_has ls 4 [(0, .ref (a 0)), (1, .int l1)] := hl
  have J_34 : ∀ (n_34 : Nat) (l1 : Int32) (l2 : Int32) (l3 : Int32) (v : V_Md) (H : Heap) (locs : List Loc) (ls : Array Slot), va_P G.1 vwCl (W_Md G a v) H → va_D A (W_Md G a v) → va_S A s.heap H locs → lv_has ls 4 [(0, .ref (a 0)), (1, .int l1), (2, .int l2), (3, .int l3)] → f_Md_settled_34 n_34 l1 l2 l3 v = some q → W p l e (rmk 3 65) s m args below meth c H locs 0 0 (MQ below (qI G A (W_Md G a v) (q)) args s 0 0 A) (F0 m 34 ls []) := by
    intro n_34
    induction n_34 with
    | zero => intro l1 l2 l3 v H locs ls hP hD hS hl hf; exact absurd hf (by unfold f_Md_settled_34; exact fun z => by cases z)
    | succ n_34 ih_34 =>
      intro l1 l2 l3 v H locs ls hP hD hS hl hf
      rw [f_Md_settled_34] at hf
      refine lv_iload_n hx hb d_Md_settled_34 rfl (lv_at hl 3 rfl) ?_
      refine lv_aload_n hx hb d_Md_settled_35 rfl (lv_at hl 0 rfl) ?_
      refine va_get (D := G.1) (ci := 9) (v := .ref (a 1)) (C := R_Md) (T := T_Md) (N := 9) hx hb hts in_Md hown hK hP 0 rfl rfl 0 (by decide) (hts _ k_753) (fun _ h9 => h9) rfl d_Md_settled_36 ?_
      refine lv_bipush (v := (57 : Int32)) hx hb d_Md_settled_39 (by decide) ?_
      obtain ⟨g_41, hf⟩ := og_e hf
      refine va_iald hx hb hK hP 1 0 rfl rfl g_41 d_Md_settled_41 ?_
      refine lv_icmp_gt (tgt := 108) hx hb d_Md_settled_42 (by decide) (fun c_42 => ?_) (fun c_42 => ?_)
      · replace hf := ob_et c_42 hf
        refine lv_aload_n hx hb d_Md_settled_108 rfl (lv_at hl 0 rfl) ?_
        refine va_get (D := G.1) (ci := 9) (v := .ref (a 1)) (C := R_Md) (T := T_Md) (N := 9) hx hb hts in_Md hown hK hP 0 rfl rfl 0 (by decide) (hts _ k_753) (fun _ h9 => h9) rfl d_Md_settled_109 ?_
        refine lv_iload_n hx hb d_Md_settled_112 rfl (lv_at hl 1 rfl) ?_
        obtain ⟨q_113, hc_113, hf⟩ := oc_e hf
        refine kcS (cc := c_Md_settled) (own := "FloodDiaryModel") (index := 167) (wc := W_Row G 2400 (a 1) v.1) (wr := O_Md G a v ++ (W_Row G 2400 (a 2) v.2.1 ++ (W_Row G 14400 (a 3) v.2.2.1 ++ (W_Row G 4800 (a 4) v.2.2.2.2.1 ++ (W_RowZ G 2 (a 5) v.2.2.2.2.2.1 ++ (W_Row G 80 (a 6) v.2.2.2.2.2.2.1 ++ (([] : va_W)))))))) (wc' := W_Row G 2400 (a 1) v.1) (ws' := W_Md G a v) hx hb hml hown hts hK hN hA hP hD hS (t_Md_valueOf l G (a 1) l1 v.1 q_113 hc_113) m_Md_valueOf k_959 ⟨Nat.le_of_ble_eq_true rfl, Nat.le_of_ble_eq_true rfl⟩ (pm_12 (O_Md G a v) (W_Row G 2400 (a 1) v.1) (W_Row G 2400 (a 2) v.2.1) (W_Row G 14400 (a 3) v.2.2.1) (W_Row G 4800 (a 4) v.2.2.2.2.1) (W_RowZ G 2 (a 5) v.2.2.2.2.2.1) (W_Row G 80 (a 6) v.2.2.2.2.2.2.1)) (pm_12 (O_Md G a v) (W_Row G 2400 (a 1) v.1) (W_Row G 2400 (a 2) v.2.1) (W_Row G 14400 (a 3) v.2.2.1) (W_Row G 4800 (a 4) v.2.2.2.2.1) (W_RowZ G 2 (a 5) v.2.2.2.2.2.1) (W_Row G 80 (a 6) v.2.2.2.2.2.2.1)).symm rfl rfl (Nat.le_of_ble_eq_true rfl) hl.1 d_Md_settled_113 ⟨Nat.zero_le _, Nat.zero_le _⟩ (fun H locs hP hD hS => ?_)
        cases hf
        exact kI hx hb hr hlk hP hD hS d_Md_settled_116
      · replace hf := ob_ef c_42 hf
        refine lv_aload_n hx hb d_Md_settled_45 rfl (lv_at hl 0 rfl) ?_
        refine va_get (D := G.1) (ci := 9) (v := .ref (a 1)) (C := R_Md) (T := T_Md) (N := 9) hx hb hts in_Md hown hK hP 0 rfl rfl 0 (by decide) (hts _ k_753) (fun _ h9 => h9) rfl d_Md_settled_46 ?_
        refine lv_iload_n hx hb d_Md_settled_49 rfl (lv_at hl 3 rfl) ?_
        obtain ⟨q_50, hc_50, hf⟩ := oc_e hf
        refine kcS (cc := c_Md_settled) (own := "FloodDiaryModel") (index := 43) (wc := ([] : va_W)) (wr := W_Md G a v) (wc' := ([] : va_W)) (ws' := W_Md G a v) hx hb hml hown hts hK hN hA hP hD hS (t_Md_at l G l3 q_50 hc_50) m_Md_at k_805 ⟨Nat.le_of_ble_eq_true rfl, Nat.le_of_ble_eq_true rfl⟩ (List.Perm.refl _) (List.Perm.refl _) rfl rfl (Nat.le_of_ble_eq_true rfl) hl.1 d_Md_settled_50 ⟨Nat.zero_le _, Nat.zero_le _⟩ (fun H locs hP hD hS => ?_)
        refine lv_iconst (v := (1 : Int32)) hx hb d_Md_settled_53 (by decide) ?_
        refine lv_iadd hx hb d_Md_settled_54 ?_
        obtain ⟨g_55, hf⟩ := og_e hf
        refine va_iald hx hb hK hP 1 0 rfl rfl g_55 d_Md_settled_55 ?_
        refine lv_iload_n hx hb d_Md_settled_56 rfl (lv_at hl 2 rfl) ?_
        refine lv_icmp_ne (tgt := 102) hx hb d_Md_settled_57 (by decide) (fun c_57 => ?_) (fun c_57 => ?_)
        · replace hf := ob_ef c_57 hf
          refine lv_iinc (v := (l3 + (1 : Int32))) (lv' := [(3, .int (l3 + (1 : Int32))), (0, .ref (a 0)), (1, .int l1), (2, .int l2)]) hx hb d_Md_settled_102 hl (k := 3) rfl rfl (by decide) rfl (fun ls hl => ?_)
          refine lv_goto (tgt := 34) hx hb d_Md_settled_105 (by decide) ?_
          exact ih_34 l1 l2 (l3 + (1 : Int32)) v _ _ ls hP hD hS (lv_sub hl [1, 2, 3, 0] rfl) hf
        · replace hf := ob_et c_57 hf
          refine lv_aload_n hx hb d_Md_settled_60 rfl (lv_at hl 0 rfl) ?_
          refine va_get (D := G.1) (ci := 9) (v := .ref (a 1)) (C := R_Md) (T := T_Md) (N := 9) hx hb hts in_Md hown hK hP 0 rfl rfl 0 (by decide) (hts _ k_753) (fun _ h9 => h9) rfl d_Md_settled_61 ?_
          refine lv_iload_n hx hb d_Md_settled_64 rfl (lv_at hl 3 rfl) ?_
          obtain ⟨q_65, hc_65, hf⟩ := oc_e hf
          refine kcS (cc := c_Md_settled) (own := "FloodDiaryModel") (index := 43) (wc := ([] : va_W)) (wr := W_Md G a v) (wc' := ([] : va_W)) (ws' := W_Md G a v) hx hb hml hown hts hK hN hA hP hD hS (t_Md_at l G l3 q_65 hc_65) m_Md_at k_805 ⟨Nat.le_of_ble_eq_true rfl, Nat.le_of_ble_eq_true rfl⟩ (List.Perm.refl _) (List.Perm.refl _) rfl rfl (Nat.le_of_ble_eq_true rfl) hl.1 d_Md_settled_65 ⟨Nat.zero_le _, Nat.zero_le _⟩ (fun H locs hP hD hS => ?_)
          refine lv_iconst (v := (0 : Int32)) hx hb d_Md_settled_68 (by decide) ?_
          refine lv_iadd hx hb d_Md_settled_69 ?_
          obtain ⟨g_70, hf⟩ := og_e hf
          refine va_iald hx hb hK hP 1 0 rfl rfl g_70 d_Md_settled_70 ?_
          refine lv_iconst (v := (1 : Int32)) hx hb d_Md_settled_71 (by decide) ?_
          refine lv_icmp_ne (tgt := 102) hx hb d_Md_settled_72 (by decide) (fun c_72 => ?_) (fun c_72 => ?_)
          · replace hf := ob_ef c_72 hf
            refine lv_iinc (v := (l3 + (1 : Int32))) (lv' := [(3, .int (l3 + (1 : Int32))), (0, .ref (a 0)), (1, .int l1), (2, .int l2)]) hx hb d_Md_settled_102 hl (k := 3) rfl rfl (by decide) rfl (fun ls hl => ?_)
            refine lv_goto (tgt := 34) hx hb d_Md_settled_105 (by decide) ?_
            exact ih_34 l1 l2 (l3 + (1 : Int32)) v _ _ ls hP hD hS (lv_sub hl [1, 2, 3, 0] rfl) hf
          · replace hf := ob_et c_72 hf
            refine lv_aload_n hx hb d_Md_settled_75 rfl (lv_at hl 0 rfl) ?_
            refine va_get (D := G.1) (ci := 9) (v := .ref (a 1)) (C := R_Md) (T := T_Md) (N := 9) hx hb hts in_Md hown hK hP 0 rfl rfl 0 (by decide) (hts _ k_753) (fun _ h9 => h9) rfl d_Md_settled_76 ?_
            refine lv_iload_n hx hb d_Md_settled_79 rfl (lv_at hl 3 rfl) ?_
            obtain ⟨q_80, hc_80, hf⟩ := oc_e hf
            refine kcS (cc := c_Md_settled) (own := "FloodDiaryModel") (index := 43) (wc := ([] : va_W)) (wr := W_Md G a v) (wc' := ([] : va_W)) (ws' := W_Md G a v) hx hb hml hown hts hK hN hA hP hD hS (t_Md_at l G l3 q_80 hc_80) m_Md_at k_805 ⟨Nat.le_of_ble_eq_true rfl, Nat.le_of_ble_eq_true rfl⟩ (List.Perm.refl _) (List.Perm.refl _) rfl rfl (Nat.le_of_ble_eq_true rfl) hl.1 d_Md_settled_80 ⟨Nat.zero_le _, Nat.zero_le _⟩ (fun H locs hP hD hS => ?_)
            refine lv_iconst (v := (3 : Int32)) hx hb d_Md_settled_83 (by decide) ?_
            refine lv_iadd hx hb d_Md_settled_84 ?_
            obtain ⟨g_85, hf⟩ := og_e hf
            refine va_iald hx hb hK hP 1 0 rfl rfl g_85 d_Md_settled_85 ?_
            refine lv_iload_n hx hb d_Md_settled_86 rfl (lv_at hl 1 rfl) ?_
            refine lv_icmp_ne (tgt := 102) hx hb d_Md_settled_87 (by decide) (fun c_87 => ?_) (fun c_87 => ?_)
            · replace hf := ob_ef c_87 hf
              refine lv_iinc (v := (l3 + (1 : Int32))) (lv' := [(3, .int (l3 + (1 : Int32))), (0, .ref (a 0)), (1, .int l1), (2, .int l2)]) hx hb d_Md_settled_102 hl (k := 3) rfl rfl (by decide) rfl (fun ls hl => ?_)
              refine lv_goto (tgt := 34) hx hb d_Md_settled_105 (by decide) ?_
              exact ih_34 l1 l2 (l3 + (1 : Int32)) v _ _ ls hP hD hS (lv_sub hl [1, 2, 3, 0] rfl) hf
            · replace hf := ob_et c_87 hf
              refine lv_aload_n hx hb d_Md_settled_90 rfl (lv_at hl 0 rfl) ?_
              refine va_get (D := G.1) (ci := 9) (v := .ref (a 1)) (C := R_Md) (T := T_Md) (N := 9) hx hb hts in_Md hown hK hP 0 rfl rfl 0 (by decide) (hts _ k_753) (fun _ h9 => h9) rfl d_Md_settled_91 ?_
              refine lv_iload_n hx hb d_Md_settled_94 rfl (lv_at hl 3 rfl) ?_
              obtain ⟨q_95, hc_95, hf⟩ := oc_e hf
              refine kcS (cc := c_Md_settled) (own := "FloodDiaryModel") (index := 43) (wc := ([] : va_W)) (wr := W_Md G a v) (wc' := ([] : va_W)) (ws' := W_Md G a v) hx hb hml hown hts hK hN hA hP hD hS (t_Md_at l G l3 q_95 hc_95) m_Md_at k_805 ⟨Nat.le_of_ble_eq_true rfl, Nat.le_of_ble_eq_true rfl⟩ (List.Perm.refl _) (List.Perm.refl _) rfl rfl (Nat.le_of_ble_eq_true rfl) hl.1 d_Md_settled_95 ⟨Nat.zero_le _, Nat.zero_le _⟩ (fun H locs hP hD hS => ?_)
              refine lv_iconst (v := (4 : Int32)) hx hb d_Md_settled_98 (by decide) ?_
              refine lv_iadd hx hb d_Md_settled_99 ?_
              obtain ⟨g_100, hf⟩ := og_e hf
              refine va_iald hx hb hK hP 1 0 rfl rfl g_100 d_Md_settled_100 ?_
              cases hf
              exact kI hx hb hr hlk hP hD hS d_Md_settled_101
  unfold f_Md_settled at hf
  refine lv_iload_n hx hb d_Md_settled_0 rfl (lv_at hl 1 rfl) ?_
  obtain ⟨q_1, hc_1, hf⟩ := oc_e hf
  refine kcS (cc := c_Md_settled) (own := "FloodDiaryModel") (index := 103) (wc := ([] : va_W)) (wr := W_Md G a v) (wc' := ([] : va_W)) (ws' := W_Md G a v) hx hb hml hown hts hK hN hA hP hD hS (t_Md_isPage l G l1 q_1 hc_1) m_Md_isPage k_821 ⟨Nat.le_of_ble_eq_true rfl, Nat.le_of_ble_eq_true rfl⟩ (List.Perm.refl _) (List.Perm.refl _) rfl rfl (Nat.le_of_ble_eq_true rfl) hl.1 d_Md_settled_1 ⟨Nat.zero_le _, Nat.zero_le _⟩ (fun H locs hP hD hS => ?_)
  refine lv_if_ne (tgt := 9) hx hb d_Md_settled_4 (by decide) (fun c_4 => ?_) (fun c_4 => ?_)
  · replace hf := ob_ef c_4 hf
    refine lv_aload_n hx hb d_Md_settled_9 rfl (lv_at hl 0 rfl) ?_
    refine va_get (D := G.1) (ci := 9) (v := .ref (a 1)) (C := R_Md) (T := T_Md) (N := 9) hx hb hts in_Md hown hK hP 0 rfl rfl 0 (by decide) (hts _ k_753) (fun _ h9 => h9) rfl d_Md_settled_10 ?_
    refine lv_bipush (v := (59 : Int32)) hx hb d_Md_settled_13 (by decide) ?_
    obtain ⟨g_15, hf⟩ := og_e hf
    refine va_iald hx hb hK hP 1 0 rfl rfl g_15 d_Md_settled_15 ?_
    refine lv_iconst (v := (1 : Int32)) hx hb d_Md_settled_16 (by decide) ?_
    refine lv_icmp_ne (tgt := 23) hx hb d_Md_settled_17 (by decide) (fun c_17 => ?_) (fun c_17 => ?_)
    · replace hf := ob_ef c_17 hf
      refine lv_aload_n hx hb d_Md_settled_23 rfl (lv_at hl 0 rfl) ?_
      refine va_get (D := G.1) (ci := 9) (v := .ref (a 1)) (C := R_Md) (T := T_Md) (N := 9) hx hb hts in_Md hown hK hP 0 rfl rfl 0 (by decide) (hts _ k_753) (fun _ h9 => h9) rfl d_Md_settled_24 ?_
      refine lv_iload_n hx hb d_Md_settled_27 rfl (lv_at hl 1 rfl) ?_
      obtain ⟨q_28, hc_28, hf⟩ := oc_e hf
      refine kcS (cc := c_Md_settled) (own := "FloodDiaryModel") (index := 109) (wc := W_Row G 2400 (a 1) v.1) (wr := O_Md G a v ++ (W_Row G 2400 (a 2) v.2.1 ++ (W_Row G 14400 (a 3) v.2.2.1 ++ (W_Row G 4800 (a 4) v.2.2.2.2.1 ++ (W_RowZ G 2 (a 5) v.2.2.2.2.2.1 ++ (W_Row G 80 (a 6) v.2.2.2.2.2.2.1 ++ (([] : va_W)))))))) (wc' := W_Row G 2400 (a 1) v.1) (ws' := W_Md G a v) hx hb hml hown hts hK hN hA hP hD hS (t_Md_holder l G (a 1) l1 v.1 q_28 hc_28) m_Md_holder k_826 ⟨Nat.le_of_ble_eq_true rfl, Nat.le_of_ble_eq_true rfl⟩ (pm_12 (O_Md G a v) (W_Row G 2400 (a 1) v.1) (W_Row G 2400 (a 2) v.2.1) (W_Row G 14400 (a 3) v.2.2.1) (W_Row G 4800 (a 4) v.2.2.2.2.1) (W_RowZ G 2 (a 5) v.2.2.2.2.2.1) (W_Row G 80 (a 6) v.2.2.2.2.2.2.1)) (pm_12 (O_Md G a v) (W_Row G 2400 (a 1) v.1) (W_Row G 2400 (a 2) v.2.1) (W_Row G 14400 (a 3) v.2.2.1) (W_Row G 4800 (a 4) v.2.2.2.2.1) (W_RowZ G 2 (a 5) v.2.2.2.2.2.1) (W_Row G 80 (a 6) v.2.2.2.2.2.2.1)).symm rfl rfl (Nat.le_of_ble_eq_true rfl) hl.1 d_Md_settled_28 ⟨Nat.zero_le _, Nat.zero_le _⟩ (fun H locs hP hD hS => ?_)
      refine lv_istore_n (lv' := [(2, .int q_28), (0, .ref (a 0)), (1, .int l1)]) hx hb d_Md_settled_31 rfl hl (by decide) rfl (fun ls hl => ?_)
      refine lv_iconst (v := (1 : Int32)) hx hb d_Md_settled_32 (by decide) ?_
      refine lv_istore_n (lv' := [(3, .int (1 : Int32)), (2, .int q_28), (0, .ref (a 0)), (1, .int l1)]) hx hb d_Md_settled_33 rfl hl (by decide) rfl (fun ls hl => ?_)
      exact J_34 FU l1 q_28 (1 : Int32) v _ _ ls hP hD hS (lv_sub hl [2, 3, 1, 0] rfl) hf
    · replace hf := ob_et c_17 hf
      refine lv_bipush (v := (-5 : Int32)) hx hb d_Md_settled_20 (by decide) ?_
      cases hf
      exact kI hx hb hr hlk hP hD hS d_Md_settled_22
  · replace hf := ob_et c_4 hf
    refine lv_iconst (v := (-1 : Int32)) hx hb d_Md_settled_7 (by decide) ?_
    cases hf
    exact kI hx hb hr hlk hP hD hS d_Md_settled_8
set_option maxHeartbeats 4000000 in
set_option maxRecDepth 100000 in
theorem t_Md_put (l : Launch) (G : GG) (a : Nat → Nat) (l1 : Int64) (v : V_Md) (q : Int32 × V_Md) (hf : f_Md_put l1 v = some q) : MI l G y_Md_put c_Md_put 7 (some .int) (rmk 1 25) (W_Md G a v) [.ref (a 0), .long l1] (W_Md G a q.2) (q.1) := by
  refine ofI "FloodDiaryModel" (by decide +kernel) rfl (Nat.le_of_ble_eq_true rfl) (fun p e s m args below meth c A ls hx hb hr hml hown hts hlk hK hN hA hP hD hS hl => ?_)
  have hl : lv_has ls 7 [(0, .ref (a 0)), (1, .long l1)] := hl
  have J_89 : ∀ (n_89 : Nat) (l1 : Int64) (l6 : Int32) (v : V_Md) (H : Heap) (locs : List Loc) (ls : Array Slot), va_P G.1 vwCl (W_Md G a v) H → va_D A (W_Md G a v) → va_S A s.heap H locs → lv_has ls 7 [(0, .ref (a 0)), (1, .long l1), (6, .int l6)] → f_Md_put_89 n_89 l1 l6 v = some q → W p l e (rmk 1 25) s m args below meth c H locs 0 0 (MQ below (qI G A (W_Md G a q.2) (q.1)) args s 0 0 A) (F0 m 89 ls []) := by
    intro n_89
    induction n_89 with
    | zero => intro l1 l6 v H locs ls hP hD hS hl hf; exact absurd hf (by unfold f_Md_put_89; exact fun z => by cases z)
    | succ n_89 ih_89 =>
      intro l1 l6 v H locs ls hP hD hS hl hf
      rw [f_Md_put_89] at hf
      refine lv_iload hx hb d_Md_put_89 (lv_at hl 2 rfl) ?_
      refine lv_if_lt (tgt := 131) hx hb d_Md_put_91 (by decide) (fun c_91 => ?_) (fun c_91 => ?_)
      · replace hf := ob_et c_91 hf
        refine lv_aload_n hx hb d_Md_put_131 rfl (lv_at hl 0 rfl) ?_
        refine va_get (D := G.1) (ci := 9) (v := .int v.2.2.2.2.2.2.2.1) (C := R_Md) (T := T_Md) (N := 9) hx hb hts in_Md hown hK hP 0 rfl rfl 7 (by decide) (hts _ k_760) (fun _ h9 => h9) rfl d_Md_put_132 ?_
        cases hf
        exact kI hx hb hr hlk hP hD hS d_Md_put_135
      · replace hf := ob_ef c_91 hf
        refine lv_aload_n hx hb d_Md_put_94 rfl (lv_at hl 0 rfl) ?_
        refine va_get (D := G.1) (ci := 9) (v := .ref (a 6)) (C := R_Md) (T := T_Md) (N := 9) hx hb hts in_Md hown hK hP 0 rfl rfl 6 (by decide) (hts _ k_759) (fun _ h9 => h9) rfl d_Md_put_95 ?_
        refine lv_aload_n hx hb d_Md_put_98 rfl (lv_at hl 0 rfl) ?_
        refine va_get (D := G.1) (ci := 9) (v := .int v.2.2.2.2.2.2.2.1) (C := R_Md) (T := T_Md) (N := 9) hx hb hts in_Md hown hK hP 0 rfl rfl 7 (by decide) (hts _ k_760) (fun _ h9 => h9) rfl d_Md_put_99 ?_
        refine lv_lload_n hx hb d_Md_put_102 rfl (lv_at hl 1 rfl) ?_
        refine lv_bipush (v := (8 : Int32)) hx hb d_Md_put_103 (by decide) ?_
        refine lv_iload hx hb d_Md_put_105 (lv_at hl 2 rfl) ?_
        refine lv_imul hx hb d_Md_put_107 ?_
        refine lv_lushr (v := (l1.toUInt64 >>> (((8 : Int32) * l6).toInt64.toUInt64 &&& Int64.toUInt64 63)).toInt64) hx hb d_Md_put_108 rfl ?_
        refine lv_ldc2 (v := (255 : Int64)) hx hb hown (hts _ k_978) d_Md_put_109 ?_
        refine lv_land hx hb d_Md_put_112 ?_
        refine lv_l2i (v := ((l1.toUInt64 >>> (((8 : Int32) * l6).toInt64.toUInt64 &&& Int64.toUInt64 63)).toInt64 &&& (255 : Int64)).toInt32) hx hb d_Md_put_113 rfl ?_
        obtain ⟨g_114, hf⟩ := og_e hf
        obtain ⟨r_114, er_114, hf⟩ := nx_e hf
        refine va_iast hx hb hK hP hD hS 6 0 rfl rfl g_114 d_Md_put_114 (fun H locs hP hD hS => ?_)
        rw [← er_114] at hP hD
        have hP : va_P G.1 vwCl (W_Md G a (v.1, v.2.1, v.2.2.1, v.2.2.2.1, v.2.2.2.2.1, v.2.2.2.2.2.1, r_114, v.2.2.2.2.2.2.2.1, v.2.2.2.2.2.2.2.2)) H := hP
        have hD : va_D A (W_Md G a (v.1, v.2.1, v.2.2.1, v.2.2.2.1, v.2.2.2.2.1, v.2.2.2.2.2.1, r_114, v.2.2.2.2.2.2.2.1, v.2.2.2.2.2.2.2.2)) := hD
        refine lv_aload_n hx hb d_Md_put_115 rfl (lv_at hl 0 rfl) ?_
        refine lv_dup hx hb d_Md_put_116 rfl ?_
        refine va_get (D := G.1) (ci := 9) (v := .int v.2.2.2.2.2.2.2.1) (C := R_Md) (T := T_Md) (N := 9) hx hb hts in_Md hown hK hP 0 rfl rfl 7 (by decide) (hts _ k_760) (fun _ h9 => h9) rfl d_Md_put_117 ?_
        refine lv_iconst (v := (1 : Int32)) hx hb d_Md_put_120 (by decide) ?_
        refine lv_iadd hx hb d_Md_put_121 ?_
        refine va_put (D := G.1) (ci := 9) (v := .int (v.2.2.2.2.2.2.2.1 + (1 : Int32))) (ty := .int) (C := R_Md) (T := T_Md) (N := 9) hx hb hts in_Md ty_Md ty_Md_ok nm_Md hown hK hP hD hS 0 rfl rfl 7 (by decide) (hts _ k_760) (fun _ h9 => h9) rfl (ty_Md_ok 7 (by decide)) rfl rfl (Nat.le_of_ble_eq_true rfl) d_Md_put_122 (fun H locs hP hD hS => ?_)
        have hP : va_P G.1 vwCl (W_Md G a (v.1, v.2.1, v.2.2.1, v.2.2.2.1, v.2.2.2.2.1, v.2.2.2.2.2.1, r_114, (v.2.2.2.2.2.2.2.1 + (1 : Int32)), v.2.2.2.2.2.2.2.2)) H := hP
        have hD : va_D A (W_Md G a (v.1, v.2.1, v.2.2.1, v.2.2.2.1, v.2.2.2.2.1, v.2.2.2.2.2.1, r_114, (v.2.2.2.2.2.2.2.1 + (1 : Int32)), v.2.2.2.2.2.2.2.2)) := hD
        refine lv_iinc (v := (l6 + (-1 : Int32))) (lv' := [(6, .int (l6 + (-1 : Int32))), (0, .ref (a 0)), (1, .long l1)]) hx hb d_Md_put_125 hl (k := 2) rfl rfl (by decide) rfl (fun ls hl => ?_)
        refine lv_goto (tgt := 89) hx hb d_Md_put_128 (by decide) ?_
        exact ih_89 l1 (l6 + (-1 : Int32)) (v.1, v.2.1, v.2.2.1, v.2.2.2.1, v.2.2.2.2.1, v.2.2.2.2.2.1, r_114, (v.2.2.2.2.2.2.2.1 + (1 : Int32)), v.2.2.2.2.2.2.2.2) _ _ ls hP hD hS (lv_sub hl [1, 2, 0] rfl) hf
  have J_56 : ∀ (l1 : Int64) (l3 : Int32) (l4 : Int64) (v : V_Md) (H : Heap) (locs : List Loc) (ls : Array Slot), va_P G.1 vwCl (W_Md G a v) H → va_D A (W_Md G a v) → va_S A s.heap H locs → lv_has ls 7 [(0, .ref (a 0)), (1, .long l1), (3, .int l3), (4, .long l4)] → f_Md_put_56 l1 l3 l4 v = some q → W p l e (rmk 1 25) s m args below meth c H locs 0 0 (MQ below (qI G A (W_Md G a q.2) (q.1)) args s 0 0 A) (F0 m 56 ls []) := by
    intro l1 l3 l4 v H locs ls hP hD hS hl hf
    unfold f_Md_put_56 at hf
    refine lv_iload_n hx hb d_Md_put_56 rfl (lv_at hl 2 rfl) ?_
    refine lv_if_eq (tgt := 67) hx hb d_Md_put_57 (by decide) (fun c_57 => ?_) (fun c_57 => ?_)
    · replace hf := ob_et c_57 hf
      refine lv_bipush (v := (-2 : Int32)) hx hb d_Md_put_67 (by decide) ?_
      cases hf
      exact kI hx hb hr hlk hP hD hS d_Md_put_69
    · replace hf := ob_ef c_57 hf
      refine lv_lload hx hb d_Md_put_60 (lv_at hl 3 rfl) ?_
      refine lv_lconst (v := (0 : Int64)) hx hb d_Md_put_62 (by decide) ?_
      refine W.lcmp hx hb d_Md_put_63 ?_
      refine lv_if_eq (tgt := 70) hx hb d_Md_put_64 (by decide) (fun c_64 => ?_) (fun c_64 => ?_)
      · replace hf := ob_et c_64 hf
        refine lv_aload_n hx hb d_Md_put_70 rfl (lv_at hl 0 rfl) ?_
        refine va_get (D := G.1) (ci := 9) (v := .int v.2.2.2.2.2.2.2.1) (C := R_Md) (T := T_Md) (N := 9) hx hb hts in_Md hown hK hP 0 rfl rfl 7 (by decide) (hts _ k_760) (fun _ h9 => h9) rfl d_Md_put_71 ?_
        refine lv_iload_n hx hb d_Md_put_74 rfl (lv_at hl 2 rfl) ?_
        refine lv_iadd hx hb d_Md_put_75 ?_
        refine lv_bipush (v := (80 : Int32)) hx hb d_Md_put_76 (by decide) ?_
        refine lv_icmp_le (tgt := 84) hx hb d_Md_put_78 (by decide) (fun c_78 => ?_) (fun c_78 => ?_)
        · replace hf := ob_et c_78 hf
          refine lv_iload_n hx hb d_Md_put_84 rfl (lv_at hl 2 rfl) ?_
          refine lv_iconst (v := (1 : Int32)) hx hb d_Md_put_85 (by decide) ?_
          refine lv_isub hx hb d_Md_put_86 ?_
          refine lv_istore (lv' := [(6, .int (l3 - (1 : Int32))), (0, .ref (a 0)), (1, .long l1), (3, .int l3), (4, .long l4)]) hx hb d_Md_put_87 hl (by decide) rfl (fun ls hl => ?_)
          exact J_89 FU l1 (l3 - (1 : Int32)) v _ _ ls hP hD hS (lv_sub hl [1, 2, 0] rfl) hf
        · replace hf := ob_ef c_78 hf
          refine lv_bipush (v := (-4 : Int32)) hx hb d_Md_put_81 (by decide) ?_
          cases hf
          exact kI hx hb hr hlk hP hD hS d_Md_put_83
      · replace hf := ob_ef c_64 hf
        refine lv_bipush (v := (-2 : Int32)) hx hb d_Md_put_67 (by decide) ?_
        cases hf
        exact kI hx hb hr hlk hP hD hS d_Md_put_69
  have J_5 : ∀ (n_5 : Nat) (l1 : Int64) (l3 : Int32) (l4 : Int64) (v : V_Md) (H : Heap) (locs : List Loc) (ls : Array Slot), va_P G.1 vwCl (W_Md G a v) H → va_D A (W_Md G a v) → va_S A s.heap H locs → lv_has ls 7 [(0, .ref (a 0)), (1, .long l1), (3, .int l3), (4, .long l4)] → f_Md_put_5 n_5 l1 l3 l4 v = some q → W p l e (rmk 1 25) s m args below meth c H locs 0 0 (MQ below (qI G A (W_Md G a q.2) (q.1)) args s 0 0 A) (F0 m 5 ls []) := by
    intro n_5
    induction n_5 with
    | zero => intro l1 l3 l4 v H locs ls hP hD hS hl hf; exact absurd hf (by unfold f_Md_put_5; exact fun z => by cases z)
    | succ n_5 ih_5 =>
      intro l1 l3 l4 v H locs ls hP hD hS hl hf
      rw [f_Md_put_5] at hf
      refine lv_iload_n hx hb d_Md_put_5 rfl (lv_at hl 2 rfl) ?_
      refine lv_bipush (v := (8 : Int32)) hx hb d_Md_put_6 (by decide) ?_
      refine lv_icmp_ge (tgt := 56) hx hb d_Md_put_8 (by decide) (fun c_8 => ?_) (fun c_8 => ?_)
      · replace hf := ob_et c_8 hf
        exact J_56 l1 l3 l4 v _ _ ls hP hD hS (lv_sub hl [0, 1, 2, 3] rfl) hf
      · replace hf := ob_ef c_8 hf
        refine lv_lload hx hb d_Md_put_11 (lv_at hl 3 rfl) ?_
        refine lv_ldc2 (v := (255 : Int64)) hx hb hown (hts _ k_978) d_Md_put_13 ?_
        refine lv_land hx hb d_Md_put_16 ?_
        refine lv_lconst (v := (0 : Int64)) hx hb d_Md_put_17 (by decide) ?_
        refine W.lcmp hx hb d_Md_put_18 ?_
        refine lv_if_eq (tgt := 56) hx hb d_Md_put_19 (by decide) (fun c_19 => ?_) (fun c_19 => ?_)
        · replace hf := ob_et c_19 hf
          exact J_56 l1 l3 l4 v _ _ ls hP hD hS (lv_sub hl [0, 1, 2, 3] rfl) hf
        · replace hf := ob_ef c_19 hf
          refine lv_lload hx hb d_Md_put_22 (lv_at hl 3 rfl) ?_
          refine lv_ldc2 (v := (255 : Int64)) hx hb hown (hts _ k_978) d_Md_put_24 ?_
          refine lv_land hx hb d_Md_put_27 ?_
          refine lv_ldc2 (v := (33 : Int64)) hx hb hown (hts _ k_979) d_Md_put_28 ?_
          refine lv_ldc2 (v := (126 : Int64)) hx hb hown (hts _ k_980) d_Md_put_31 ?_
          obtain ⟨q_34, hc_34, hf⟩ := oc_e hf
          refine kcS (cc := c_Md_put) (own := "FloodDiaryModel") (index := 35) (wc := ([] : va_W)) (wr := W_Md G a v) (wc' := ([] : va_W)) (ws' := W_Md G a v) hx hb hml hown hts hK hN hA hP hD hS (t_Md_in l G (l4 &&& (255 : Int64)) (33 : Int64) (126 : Int64) q_34 hc_34) m_Md_in k_818 ⟨Nat.le_of_ble_eq_true rfl, Nat.le_of_ble_eq_true rfl⟩ (List.Perm.refl _) (List.Perm.refl _) rfl rfl (Nat.le_of_ble_eq_true rfl) hl.1 d_Md_put_34 ⟨Nat.zero_le _, Nat.zero_le _⟩ (fun H locs hP hD hS => ?_)
          refine lv_if_ne (tgt := 43) hx hb d_Md_put_37 (by decide) (fun c_37 => ?_) (fun c_37 => ?_)
          · replace hf := ob_ef c_37 hf
            refine lv_iinc (v := (l3 + (1 : Int32))) (lv' := [(3, .int (l3 + (1 : Int32))), (0, .ref (a 0)), (1, .long l1), (4, .long l4)]) hx hb d_Md_put_43 hl (k := 2) rfl rfl (by decide) rfl (fun ls hl => ?_)
            refine lv_lload hx hb d_Md_put_46 (lv_at hl 3 rfl) ?_
            refine lv_bipush (v := (8 : Int32)) hx hb d_Md_put_48 (by decide) ?_
            refine lv_lushr (v := (l4.toUInt64 >>> ((8 : Int32).toInt64.toUInt64 &&& Int64.toUInt64 63)).toInt64) hx hb d_Md_put_50 rfl ?_
            refine lv_lstore (lv' := [(4, .long ((l4.toUInt64 >>> ((8 : Int32).toInt64.toUInt64 &&& Int64.toUInt64 63)).toInt64)), (3, .int (l3 + (1 : Int32))), (0, .ref (a 0)), (1, .long l1)]) hx hb d_Md_put_51 hl (by decide) rfl (fun ls hl => ?_)
            refine lv_goto (tgt := 5) hx hb d_Md_put_53 (by decide) ?_
            exact ih_5 l1 (l3 + (1 : Int32)) ((l4.toUInt64 >>> ((8 : Int32).toInt64.toUInt64 &&& Int64.toUInt64 63)).toInt64) v _ _ ls hP hD hS (lv_sub hl [2, 3, 1, 0] rfl) hf
          · replace hf := ob_et c_37 hf
            refine lv_bipush (v := (-2 : Int32)) hx hb d_Md_put_40 (by decide) ?_
            cases hf
            exact kI hx hb hr hlk hP hD hS d_Md_put_42
  unfold f_Md_put at hf
  refine lv_iconst (v := (0 : Int32)) hx hb d_Md_put_0 (by decide) ?_
  refine lv_istore_n (lv' := [(3, .int (0 : Int32)), (0, .ref (a 0)), (1, .long l1)]) hx hb d_Md_put_1 rfl hl (by decide) rfl (fun ls hl => ?_)
  refine lv_lload_n hx hb d_Md_put_2 rfl (lv_at hl 2 rfl) ?_
  refine lv_lstore (lv' := [(4, .long l1), (3, .int (0 : Int32)), (0, .ref (a 0)), (1, .long l1)]) hx hb d_Md_put_3 hl (by decide) rfl (fun ls hl => ?_)
  exact J_5 FU l1 (0 : Int32) l1 v _ _ ls hP hD hS (lv_sub hl [2, 3, 1, 0] rfl) hf
set_option maxHeartbeats 4000000 in
set_option maxRecDepth 100000 in
theorem t_Md_wipe (l : Launch) (G : GG) (a : Nat → Nat) (v : V_Md) (q : Int32 × V_Md) (hf : f_Md_wipe v = some q) : MI l G y_Md_wipe c_Md_wipe 2 (some .int) (rmk 0 0) (W_Md G a v) [.ref (a 0)] (W_Md G a q.2) (q.1) := by
  refine ofI "FloodDiaryModel" (by decide +kernel) rfl (Nat.le_of_ble_eq_true rfl) (fun p e s m args below meth c A ls hx hb hr hml hown hts hlk hK hN hA hP hD hS hl => ?_)
  have hl : lv_has ls 2 [(0, .ref (a 0))] := hl
  unfold f_Md_wipe at hf
  refine lv_aload_n hx hb d_Md_wipe_0 rfl (lv_at hl 0 rfl) ?_
  refine va_get (D := G.1) (ci := 9) (v := .int v.2.2.2.2.2.2.2.1) (C := R_Md) (T := T_Md) (N := 9) hx hb hts in_Md hown hK hP 0 rfl rfl 7 (by decide) (hts _ k_760) (fun _ h9 => h9) rfl d_Md_wipe_1 ?_
  refine lv_istore_n (lv' := [(1, .int v.2.2.2.2.2.2.2.1), (0, .ref (a 0))]) hx hb d_Md_wipe_4 rfl hl (by decide) rfl (fun ls hl => ?_)
  refine lv_aload_n hx hb d_Md_wipe_5 rfl (lv_at hl 1 rfl) ?_
  refine lv_iconst (v := (0 : Int32)) hx hb d_Md_wipe_6 (by decide) ?_
  refine va_put (D := G.1) (ci := 9) (v := .int (0 : Int32)) (ty := .int) (C := R_Md) (T := T_Md) (N := 9) hx hb hts in_Md ty_Md ty_Md_ok nm_Md hown hK hP hD hS 0 rfl rfl 7 (by decide) (hts _ k_760) (fun _ h9 => h9) rfl (ty_Md_ok 7 (by decide)) rfl rfl (Nat.le_of_ble_eq_true rfl) d_Md_wipe_7 (fun H locs hP hD hS => ?_)
  have hP : va_P G.1 vwCl (W_Md G a (v.1, v.2.1, v.2.2.1, v.2.2.2.1, v.2.2.2.2.1, v.2.2.2.2.2.1, v.2.2.2.2.2.2.1, (0 : Int32), v.2.2.2.2.2.2.2.2)) H := hP
  have hD : va_D A (W_Md G a (v.1, v.2.1, v.2.2.1, v.2.2.2.1, v.2.2.2.2.1, v.2.2.2.2.2.1, v.2.2.2.2.2.2.1, (0 : Int32), v.2.2.2.2.2.2.2.2)) := hD
  refine lv_iload_n hx hb d_Md_wipe_10 rfl (lv_at hl 0 rfl) ?_
  cases hf
  exact kI hx hb hr hlk hP hD hS d_Md_wipe_11
set_option maxHeartbeats 4000000 in
set_option maxRecDepth 100000 in
theorem t_Md_sign (l : Launch) (G : GG) (a : Nat → Nat) (v : V_Md) (q : Int32) (hf : f_Md_sign v = some q) : MI l G y_Md_sign c_Md_sign 1 (some .int) (rmk 0 0) (W_Md G a v) [.ref (a 0)] (W_Md G a v) (q) := by
  refine ofI "FloodDiaryModel" (by decide +kernel) rfl (Nat.le_of_ble_eq_true rfl) (fun p e s m args below meth c A ls hx hb hr hml hown hts hlk hK hN hA hP hD hS hl => ?_)
  have hl : lv_has ls 1 [(0, .ref (a 0))] := hl
  unfold f_Md_sign at hf
  refine lv_aload_n hx hb d_Md_sign_0 rfl (lv_at hl 0 rfl) ?_
  refine va_get (D := G.1) (ci := 9) (v := .int v.2.2.2.2.2.2.2.2) (C := R_Md) (T := T_Md) (N := 9) hx hb hts in_Md hown hK hP 0 rfl rfl 8 (by decide) (hts _ k_761) (fun _ h9 => h9) rfl d_Md_sign_1 ?_
  refine lv_aload_n hx hb d_Md_sign_4 rfl (lv_at hl 0 rfl) ?_
  refine va_get (D := G.1) (ci := 9) (v := .int v.2.2.2.2.2.2.2.1) (C := R_Md) (T := T_Md) (N := 9) hx hb hts in_Md hown hK hP 0 rfl rfl 7 (by decide) (hts _ k_760) (fun _ h9 => h9) rfl d_Md_sign_5 ?_
  refine lv_icmp_ge (tgt := 23) hx hb d_Md_sign_8 (by decide) (fun c_8 => ?_) (fun c_8 => ?_)
  · replace hf := ob_et c_8 hf
    refine lv_bipush (v := (-6 : Int32)) hx hb d_Md_sign_23 (by decide) ?_
    cases hf
    exact kI hx hb hr hlk hP hD hS d_Md_sign_25
  · replace hf := ob_ef c_8 hf
    refine lv_aload_n hx hb d_Md_sign_11 rfl (lv_at hl 0 rfl) ?_
    refine va_get (D := G.1) (ci := 9) (v := .ref (a 6)) (C := R_Md) (T := T_Md) (N := 9) hx hb hts in_Md hown hK hP 0 rfl rfl 6 (by decide) (hts _ k_759) (fun _ h9 => h9) rfl d_Md_sign_12 ?_
    refine lv_aload_n hx hb d_Md_sign_15 rfl (lv_at hl 0 rfl) ?_
    refine va_get (D := G.1) (ci := 9) (v := .int v.2.2.2.2.2.2.2.2) (C := R_Md) (T := T_Md) (N := 9) hx hb hts in_Md hown hK hP 0 rfl rfl 8 (by decide) (hts _ k_761) (fun _ h9 => h9) rfl d_Md_sign_16 ?_
    obtain ⟨g_19, hf⟩ := og_e hf
    refine va_iald hx hb hK hP 6 0 rfl rfl g_19 d_Md_sign_19 ?_
    refine lv_goto (tgt := 25) hx hb d_Md_sign_20 (by decide) ?_
    cases hf
    exact kI hx hb hr hlk hP hD hS d_Md_sign_25
set_option maxHeartbeats 4000000 in
set_option maxRecDepth 100000 in
theorem t_Md_taken (l : Launch) (G : GG) (a : Nat → Nat) (l1 : Int32) (l2 : Int32) (v : V_Md) (q : Int32 × V_Md) (hf : f_Md_taken l1 l2 v = some q) : MI l G y_Md_taken c_Md_taken 4 (some .int) (rmk 1 25) (W_Md G a v) [.ref (a 0), .int l1, .int l2] (W_Md G a q.2) (q.1) := by
  refine ofI "FloodDiaryModel" (by decide +kernel) rfl (Nat.le_of_ble_eq_true rfl) (fun p e s m args below meth c A ls hx hb hr hml hown hts hlk hK hN hA hP hD hS hl => ?_)
  have hl : lv_has ls 4 [(0, .ref (a 0)), (1, .int l1), (2, .int l2)] := hl
  unfold f_Md_taken at hf
  refine lv_aload_n hx hb d_Md_taken_0 rfl (lv_at hl 0 rfl) ?_
  obtain ⟨q_1, hc_1, hf⟩ := oc_e hf
  refine kcV (cc := c_Md_taken) (own := "FloodDiaryModel") (index := 182) (wc := W_Md G a v) (wr := ([] : va_W)) (wc' := W_Md G a v) (ws' := W_Md G a v) hx hb hml hown hts hK hN hA hP hD hS (t_Md_sign l G a v q_1 hc_1) m_Md_sign k_993 ⟨Nat.le_of_ble_eq_true rfl, Nat.le_of_ble_eq_true rfl⟩ (pm_0 (W_Md G a v)) (pm_0 (W_Md G a v)).symm 9 0 rfl rfl rfl rfl rfl (Nat.le_of_ble_eq_true rfl) hl.1 d_Md_taken_1 ⟨Nat.zero_le _, Nat.zero_le _⟩ (fun H locs hP hD hS => ?_)
  refine lv_istore_n (lv' := [(3, .int q_1), (0, .ref (a 0)), (1, .int l1), (2, .int l2)]) hx hb d_Md_taken_4 rfl hl (by decide) rfl (fun ls hl => ?_)
  refine lv_iload_n hx hb d_Md_taken_5 rfl (lv_at hl 0 rfl) ?_
  refine lv_i2l (v := q_1.toInt64) hx hb d_Md_taken_6 rfl ?_
  refine lv_iload_n hx hb d_Md_taken_7 rfl (lv_at hl 2 rfl) ?_
  refine lv_i2l (v := l1.toInt64) hx hb d_Md_taken_8 rfl ?_
  refine lv_iload_n hx hb d_Md_taken_9 rfl (lv_at hl 3 rfl) ?_
  refine lv_i2l (v := l2.toInt64) hx hb d_Md_taken_10 rfl ?_
  obtain ⟨q_11, hc_11, hf⟩ := oc_e hf
  refine kcS (cc := c_Md_taken) (own := "FloodDiaryModel") (index := 35) (wc := ([] : va_W)) (wr := W_Md G a v) (wc' := ([] : va_W)) (ws' := W_Md G a v) hx hb hml hown hts hK hN hA hP hD hS (t_Md_in l G q_1.toInt64 l1.toInt64 l2.toInt64 q_11 hc_11) m_Md_in k_818 ⟨Nat.le_of_ble_eq_true rfl, Nat.le_of_ble_eq_true rfl⟩ (List.Perm.refl _) (List.Perm.refl _) rfl rfl (Nat.le_of_ble_eq_true rfl) hl.1 d_Md_taken_11 ⟨Nat.zero_le _, Nat.zero_le _⟩ (fun H locs hP hD hS => ?_)
  refine lv_if_ne (tgt := 20) hx hb d_Md_taken_14 (by decide) (fun c_14 => ?_) (fun c_14 => ?_)
  · replace hf := ob_ef c_14 hf
    refine lv_aload_n hx hb d_Md_taken_20 rfl (lv_at hl 1 rfl) ?_
    refine lv_dup hx hb d_Md_taken_21 rfl ?_
    refine va_get (D := G.1) (ci := 9) (v := .int v.2.2.2.2.2.2.2.2) (C := R_Md) (T := T_Md) (N := 9) hx hb hts in_Md hown hK hP 0 rfl rfl 8 (by decide) (hts _ k_761) (fun _ h9 => h9) rfl d_Md_taken_22 ?_
    refine lv_iconst (v := (1 : Int32)) hx hb d_Md_taken_25 (by decide) ?_
    refine lv_iadd hx hb d_Md_taken_26 ?_
    refine va_put (D := G.1) (ci := 9) (v := .int (v.2.2.2.2.2.2.2.2 + (1 : Int32))) (ty := .int) (C := R_Md) (T := T_Md) (N := 9) hx hb hts in_Md ty_Md ty_Md_ok nm_Md hown hK hP hD hS 0 rfl rfl 8 (by decide) (hts _ k_761) (fun _ h9 => h9) rfl (ty_Md_ok 8 (by decide)) rfl rfl (Nat.le_of_ble_eq_true rfl) d_Md_taken_27 (fun H locs hP hD hS => ?_)
    have hP : va_P G.1 vwCl (W_Md G a (v.1, v.2.1, v.2.2.1, v.2.2.2.1, v.2.2.2.2.1, v.2.2.2.2.2.1, v.2.2.2.2.2.2.1, v.2.2.2.2.2.2.2.1, (v.2.2.2.2.2.2.2.2 + (1 : Int32)))) H := hP
    have hD : va_D A (W_Md G a (v.1, v.2.1, v.2.2.1, v.2.2.2.1, v.2.2.2.2.1, v.2.2.2.2.2.1, v.2.2.2.2.2.2.1, v.2.2.2.2.2.2.2.1, (v.2.2.2.2.2.2.2.2 + (1 : Int32)))) := hD
    refine lv_iload_n hx hb d_Md_taken_30 rfl (lv_at hl 0 rfl) ?_
    refine lv_iload_n hx hb d_Md_taken_31 rfl (lv_at hl 2 rfl) ?_
    refine lv_isub hx hb d_Md_taken_32 ?_
    cases hf
    exact kI hx hb hr hlk hP hD hS d_Md_taken_33
  · replace hf := ob_et c_14 hf
    refine lv_bipush (v := (-6 : Int32)) hx hb d_Md_taken_17 (by decide) ?_
    cases hf
    exact kI hx hb hr hlk hP hD hS d_Md_taken_19
set_option maxHeartbeats 4000000 in
set_option maxRecDepth 100000 in
theorem t_Md_number (l : Launch) (G : GG) (a : Nat → Nat) (v : V_Md) (q : Int32 × V_Md) (hf : f_Md_number v = some q) : MI l G y_Md_number c_Md_number 2 (some .int) (rmk 2 48) (W_Md G a v) [.ref (a 0)] (W_Md G a q.2) (q.1) := by
  refine ofI "FloodDiaryModel" (by decide +kernel) rfl (Nat.le_of_ble_eq_true rfl) (fun p e s m args below meth c A ls hx hb hr hml hown hts hlk hK hN hA hP hD hS hl => ?_)
  have hl : lv_has ls 2 [(0, .ref (a 0))] := hl
  have J_9 : ∀ (n_9 : Nat) (l1 : Int32) (v : V_Md) (H : Heap) (locs : List Loc) (ls : Array Slot), va_P G.1 vwCl (W_Md G a v) H → va_D A (W_Md G a v) → va_S A s.heap H locs → lv_has ls 2 [(0, .ref (a 0)), (1, .int l1)] → f_Md_number_9 n_9 l1 v = some q → W p l e (rmk 2 48) s m args below meth c H locs 0 0 (MQ below (qI G A (W_Md G a q.2) (q.1)) args s 0 0 A) (F0 m 9 ls []) := by
    intro n_9
    induction n_9 with
    | zero => intro l1 v H locs ls hP hD hS hl hf; exact absurd hf (by unfold f_Md_number_9; exact fun z => by cases z)
    | succ n_9 ih_9 =>
      intro l1 v H locs ls hP hD hS hl hf
      rw [f_Md_number_9] at hf
      refine lv_iload_n hx hb d_Md_number_9 rfl (lv_at hl 1 rfl) ?_
      refine lv_bipush (v := (-6 : Int32)) hx hb d_Md_number_10 (by decide) ?_
      refine lv_icmp_eq (tgt := 83) hx hb d_Md_number_12 (by decide) (fun c_12 => ?_) (fun c_12 => ?_)
      · replace hf := ob_et c_12 hf
        refine lv_iload_n hx hb d_Md_number_83 rfl (lv_at hl 1 rfl) ?_
        cases hf
        exact kI hx hb hr hlk hP hD hS d_Md_number_84
      · replace hf := ob_ef c_12 hf
        refine lv_aload_n hx hb d_Md_number_15 rfl (lv_at hl 0 rfl) ?_
        obtain ⟨q_16, hc_16, hf⟩ := oc_e hf
        refine kcV (cc := c_Md_number) (own := "FloodDiaryModel") (index := 182) (wc := W_Md G a v) (wr := ([] : va_W)) (wc' := W_Md G a v) (ws' := W_Md G a v) hx hb hml hown hts hK hN hA hP hD hS (t_Md_sign l G a v q_16 hc_16) m_Md_sign k_993 ⟨Nat.le_of_ble_eq_true rfl, Nat.le_of_ble_eq_true rfl⟩ (pm_0 (W_Md G a v)) (pm_0 (W_Md G a v)).symm 9 0 rfl rfl rfl rfl rfl (Nat.le_of_ble_eq_true rfl) hl.1 d_Md_number_16 ⟨Nat.zero_le _, Nat.zero_le _⟩ (fun H locs hP hD hS => ?_)
        refine lv_i2l (v := q_16.toInt64) hx hb d_Md_number_19 rfl ?_
        refine lv_ldc2 (v := (48 : Int64)) hx hb hown (hts _ k_1005) d_Md_number_20 ?_
        refine lv_ldc2 (v := (57 : Int64)) hx hb hown (hts _ k_1006) d_Md_number_23 ?_
        obtain ⟨q_26, hc_26, hf⟩ := oc_e hf
        refine kcS (cc := c_Md_number) (own := "FloodDiaryModel") (index := 35) (wc := ([] : va_W)) (wr := W_Md G a v) (wc' := ([] : va_W)) (ws' := W_Md G a v) hx hb hml hown hts hK hN hA hP hD hS (t_Md_in l G q_16.toInt64 (48 : Int64) (57 : Int64) q_26 hc_26) m_Md_in k_818 ⟨Nat.le_of_ble_eq_true rfl, Nat.le_of_ble_eq_true rfl⟩ (List.Perm.refl _) (List.Perm.refl _) rfl rfl (Nat.le_of_ble_eq_true rfl) hl.1 d_Md_number_26 ⟨Nat.zero_le _, Nat.zero_le _⟩ (fun H locs hP hD hS => ?_)
        refine lv_if_eq (tgt := 83) hx hb d_Md_number_29 (by decide) (fun c_29 => ?_) (fun c_29 => ?_)
        · replace hf := ob_et c_29 hf
          refine lv_iload_n hx hb d_Md_number_83 rfl (lv_at hl 1 rfl) ?_
          cases hf
          exact kI hx hb hr hlk hP hD hS d_Md_number_84
        · replace hf := ob_ef c_29 hf
          refine lv_iload_n hx hb d_Md_number_32 rfl (lv_at hl 1 rfl) ?_
          refine lv_if_eq (tgt := 54) hx hb d_Md_number_33 (by decide) (fun c_33 => ?_) (fun c_33 => ?_)
          · replace hf := ob_et c_33 hf
            refine lv_bipush (v := (-6 : Int32)) hx hb d_Md_number_54 (by decide) ?_
            cases hf
            exact kI hx hb hr hlk hP hD hS d_Md_number_56
          · replace hf := ob_ef c_33 hf
            refine lv_bipush (v := (10 : Int32)) hx hb d_Md_number_36 (by decide) ?_
            refine lv_iload_n hx hb d_Md_number_38 rfl (lv_at hl 1 rfl) ?_
            refine lv_imul hx hb d_Md_number_39 ?_
            refine lv_aload_n hx hb d_Md_number_40 rfl (lv_at hl 0 rfl) ?_
            obtain ⟨q_41, hc_41, hf⟩ := oc_e hf
            refine kcV (cc := c_Md_number) (own := "FloodDiaryModel") (index := 182) (wc := W_Md G a v) (wr := ([] : va_W)) (wc' := W_Md G a v) (ws' := W_Md G a v) hx hb hml hown hts hK hN hA hP hD hS (t_Md_sign l G a v q_41 hc_41) m_Md_sign k_993 ⟨Nat.le_of_ble_eq_true rfl, Nat.le_of_ble_eq_true rfl⟩ (pm_0 (W_Md G a v)) (pm_0 (W_Md G a v)).symm 9 0 rfl rfl rfl rfl rfl (Nat.le_of_ble_eq_true rfl) hl.1 d_Md_number_41 ⟨Nat.zero_le _, Nat.zero_le _⟩ (fun H locs hP hD hS => ?_)
            refine lv_iadd hx hb d_Md_number_44 ?_
            refine lv_bipush (v := (48 : Int32)) hx hb d_Md_number_45 (by decide) ?_
            refine lv_isub hx hb d_Md_number_47 ?_
            refine lv_sipush (v := (999 : Int32)) hx hb d_Md_number_48 (by decide) ?_
            refine lv_icmp_le (tgt := 57) hx hb d_Md_number_51 (by decide) (fun c_51 => ?_) (fun c_51 => ?_)
            · replace hf := ob_et c_51 hf
              refine lv_bipush (v := (10 : Int32)) hx hb d_Md_number_57 (by decide) ?_
              refine lv_iload_n hx hb d_Md_number_59 rfl (lv_at hl 1 rfl) ?_
              refine lv_imul hx hb d_Md_number_60 ?_
              refine lv_aload_n hx hb d_Md_number_61 rfl (lv_at hl 0 rfl) ?_
              obtain ⟨q_62, hc_62, hf⟩ := oc_e hf
              refine kcV (cc := c_Md_number) (own := "FloodDiaryModel") (index := 182) (wc := W_Md G a v) (wr := ([] : va_W)) (wc' := W_Md G a v) (ws' := W_Md G a v) hx hb hml hown hts hK hN hA hP hD hS (t_Md_sign l G a v q_62 hc_62) m_Md_sign k_993 ⟨Nat.le_of_ble_eq_true rfl, Nat.le_of_ble_eq_true rfl⟩ (pm_0 (W_Md G a v)) (pm_0 (W_Md G a v)).symm 9 0 rfl rfl rfl rfl rfl (Nat.le_of_ble_eq_true rfl) hl.1 d_Md_number_62 ⟨Nat.zero_le _, Nat.zero_le _⟩ (fun H locs hP hD hS => ?_)
              refine lv_iadd hx hb d_Md_number_65 ?_
              refine lv_bipush (v := (48 : Int32)) hx hb d_Md_number_66 (by decide) ?_
              refine lv_isub hx hb d_Md_number_68 ?_
              refine lv_istore_n (lv' := [(1, .int ((((10 : Int32) * l1) + q_62) - (48 : Int32))), (0, .ref (a 0))]) hx hb d_Md_number_69 rfl hl (by decide) rfl (fun ls hl => ?_)
              refine lv_aload_n hx hb d_Md_number_70 rfl (lv_at hl 1 rfl) ?_
              refine lv_dup hx hb d_Md_number_71 rfl ?_
              refine va_get (D := G.1) (ci := 9) (v := .int v.2.2.2.2.2.2.2.2) (C := R_Md) (T := T_Md) (N := 9) hx hb hts in_Md hown hK hP 0 rfl rfl 8 (by decide) (hts _ k_761) (fun _ h9 => h9) rfl d_Md_number_72 ?_
              refine lv_iconst (v := (1 : Int32)) hx hb d_Md_number_75 (by decide) ?_
              refine lv_iadd hx hb d_Md_number_76 ?_
              refine va_put (D := G.1) (ci := 9) (v := .int (v.2.2.2.2.2.2.2.2 + (1 : Int32))) (ty := .int) (C := R_Md) (T := T_Md) (N := 9) hx hb hts in_Md ty_Md ty_Md_ok nm_Md hown hK hP hD hS 0 rfl rfl 8 (by decide) (hts _ k_761) (fun _ h9 => h9) rfl (ty_Md_ok 8 (by decide)) rfl rfl (Nat.le_of_ble_eq_true rfl) d_Md_number_77 (fun H locs hP hD hS => ?_)
              have hP : va_P G.1 vwCl (W_Md G a (v.1, v.2.1, v.2.2.1, v.2.2.2.1, v.2.2.2.2.1, v.2.2.2.2.2.1, v.2.2.2.2.2.2.1, v.2.2.2.2.2.2.2.1, (v.2.2.2.2.2.2.2.2 + (1 : Int32)))) H := hP
              have hD : va_D A (W_Md G a (v.1, v.2.1, v.2.2.1, v.2.2.2.1, v.2.2.2.2.1, v.2.2.2.2.2.1, v.2.2.2.2.2.2.1, v.2.2.2.2.2.2.2.1, (v.2.2.2.2.2.2.2.2 + (1 : Int32)))) := hD
              refine lv_goto (tgt := 9) hx hb d_Md_number_80 (by decide) ?_
              exact ih_9 ((((10 : Int32) * l1) + q_62) - (48 : Int32)) (v.1, v.2.1, v.2.2.1, v.2.2.2.1, v.2.2.2.2.1, v.2.2.2.2.2.1, v.2.2.2.2.2.2.1, v.2.2.2.2.2.2.2.1, (v.2.2.2.2.2.2.2.2 + (1 : Int32))) _ _ ls hP hD hS (lv_sub hl [1, 0] rfl) hf
            · replace hf := ob_ef c_51 hf
              refine lv_bipush (v := (-6 : Int32)) hx hb d_Md_number_54 (by decide) ?_
              cases hf
              exact kI hx hb hr hlk hP hD hS d_Md_number_56
  unfold f_Md_number at hf
  refine lv_aload_n hx hb d_Md_number_0 rfl (lv_at hl 0 rfl) ?_
  refine lv_bipush (v := (48 : Int32)) hx hb d_Md_number_1 (by decide) ?_
  refine lv_bipush (v := (57 : Int32)) hx hb d_Md_number_3 (by decide) ?_
  obtain ⟨q_5, hc_5, hf⟩ := oc_e hf
  refine kcV (cc := c_Md_number) (own := "FloodDiaryModel") (index := 185) (wc := W_Md G a v) (wr := ([] : va_W)) (wc' := W_Md G a q_5.2) (ws' := W_Md G a q_5.2) hx hb hml hown hts hK hN hA hP hD hS (t_Md_taken l G a (48 : Int32) (57 : Int32) v q_5 hc_5) m_Md_taken k_997 ⟨Nat.le_of_ble_eq_true rfl, Nat.le_of_ble_eq_true rfl⟩ (pm_0 (W_Md G a v)) (pm_0 (W_Md G a q_5.2)).symm 9 0 rfl rfl rfl rfl rfl (Nat.le_of_ble_eq_true rfl) hl.1 d_Md_number_5 ⟨Nat.zero_le _, Nat.zero_le _⟩ (fun H locs hP hD hS => ?_)
  refine lv_istore_n (lv' := [(1, .int q_5.1), (0, .ref (a 0))]) hx hb d_Md_number_8 rfl hl (by decide) rfl (fun ls hl => ?_)
  exact J_9 FU q_5.1 q_5.2 _ _ ls hP hD hS (lv_sub hl [1, 0] rfl) hf
set_option maxHeartbeats 4000000 in
set_option maxRecDepth 100000 in
theorem t_Md_readOrder (l : Launch) (G : GG) (a : Nat → Nat) (v : V_Md) (q : Int32 × V_Md) (hf : f_Md_readOrder v = some q) : MI l G y_Md_readOrder c_Md_readOrder 3 (some .boolean) (rmk 3 69) (W_Md G a v) [.ref (a 0)] (W_Md G a q.2) (q.1) := by
  refine ofI "FloodDiaryModel" (by decide +kernel) rfl (Nat.le_of_ble_eq_true rfl) (fun p e s m args below meth c A ls hx hb hr hml hown hts hlk hK hN hA hP hD hS hl => ?_)
  have hl : lv_has ls 3 [(0, .ref (a 0))] := hl
  have J_118 : ∀ (l1 : Int32) (s0 : Int32) (v : V_Md) (H : Heap) (locs : List Loc) (ls : Array Slot), va_P G.1 vwCl (W_Md G a v) H → va_D A (W_Md G a v) → va_S A s.heap H locs → lv_has ls 3 [(0, .ref (a 0)), (1, .int l1)] → f_Md_readOrder_118 l1 s0 v = some q → W p l e (rmk 3 69) s m args below meth c H locs 0 0 (MQ below (qI G A (W_Md G a q.2) (q.1)) args s 0 0 A) (F0 m 118 ls [.int s0]) := by
    intro l1 s0 v H locs ls hP hD hS hl hf
    unfold f_Md_readOrder_118 at hf
    refine lv_istore_n (lv' := [(2, .int s0), (0, .ref (a 0)), (1, .int l1)]) hx hb d_Md_readOrder_118 rfl hl (by decide) rfl (fun ls hl => ?_)
    refine lv_iload_n hx hb d_Md_readOrder_119 rfl (lv_at hl 0 rfl) ?_
    refine lv_if_eq (tgt := 181) hx hb d_Md_readOrder_120 (by decide) (fun c_120 => ?_) (fun c_120 => ?_)
    · replace hf := ob_et c_120 hf
      refine lv_iconst (v := (0 : Int32)) hx hb d_Md_readOrder_181 (by decide) ?_
      cases hf
      exact kZ hx hb hr hlk hP hD hS (Or.inl rfl) d_Md_readOrder_182
    · replace hf := ob_ef c_120 hf
      refine lv_iload_n hx hb d_Md_readOrder_123 rfl (lv_at hl 2 rfl) ?_
      refine lv_bipush (v := (119 : Int32)) hx hb d_Md_readOrder_124 (by decide) ?_
      refine lv_icmp_ne (tgt := 177) hx hb d_Md_readOrder_126 (by decide) (fun c_126 => ?_) (fun c_126 => ?_)
      · replace hf := ob_ef c_126 hf
        refine lv_iconst (v := (1 : Int32)) hx hb d_Md_readOrder_177 (by decide) ?_
        refine lv_goto (tgt := 182) hx hb d_Md_readOrder_178 (by decide) ?_
        cases hf
        exact kZ hx hb hr hlk hP hD hS (Or.inr rfl) d_Md_readOrder_182
      · replace hf := ob_et c_126 hf
        refine lv_aload_n hx hb d_Md_readOrder_129 rfl (lv_at hl 1 rfl) ?_
        refine lv_bipush (v := (62 : Int32)) hx hb d_Md_readOrder_130 (by decide) ?_
        refine lv_bipush (v := (62 : Int32)) hx hb d_Md_readOrder_132 (by decide) ?_
        obtain ⟨q_134, hc_134, hf⟩ := oc_e hf
        refine kcV (cc := c_Md_readOrder) (own := "FloodDiaryModel") (index := 185) (wc := W_Md G a v) (wr := ([] : va_W)) (wc' := W_Md G a q_134.2) (ws' := W_Md G a q_134.2) hx hb hml hown hts hK hN hA hP hD hS (t_Md_taken l G a (62 : Int32) (62 : Int32) v q_134 hc_134) m_Md_taken k_997 ⟨Nat.le_of_ble_eq_true rfl, Nat.le_of_ble_eq_true rfl⟩ (pm_0 (W_Md G a v)) (pm_0 (W_Md G a q_134.2)).symm 9 0 rfl rfl rfl rfl rfl (Nat.le_of_ble_eq_true rfl) hl.1 d_Md_readOrder_134 ⟨Nat.zero_le _, Nat.zero_le _⟩ (fun H locs hP hD hS => ?_)
        refine lv_bipush (v := (-6 : Int32)) hx hb d_Md_readOrder_137 (by decide) ?_
        refine lv_icmp_eq (tgt := 181) hx hb d_Md_readOrder_139 (by decide) (fun c_139 => ?_) (fun c_139 => ?_)
        · replace hf := ob_et c_139 hf
          refine lv_iconst (v := (0 : Int32)) hx hb d_Md_readOrder_181 (by decide) ?_
          cases hf
          exact kZ hx hb hr hlk hP hD hS (Or.inl rfl) d_Md_readOrder_182
        · replace hf := ob_ef c_139 hf
          refine lv_aload_n hx hb d_Md_readOrder_142 rfl (lv_at hl 1 rfl) ?_
          refine lv_bipush (v := (48 : Int32)) hx hb d_Md_readOrder_143 (by decide) ?_
          refine lv_bipush (v := (55 : Int32)) hx hb d_Md_readOrder_145 (by decide) ?_
          obtain ⟨q_147, hc_147, hf⟩ := oc_e hf
          refine kcV (cc := c_Md_readOrder) (own := "FloodDiaryModel") (index := 185) (wc := W_Md G a q_134.2) (wr := ([] : va_W)) (wc' := W_Md G a q_147.2) (ws' := W_Md G a q_147.2) hx hb hml hown hts hK hN hA hP hD hS (t_Md_taken l G a (48 : Int32) (55 : Int32) q_134.2 q_147 hc_147) m_Md_taken k_997 ⟨Nat.le_of_ble_eq_true rfl, Nat.le_of_ble_eq_true rfl⟩ (pm_0 (W_Md G a q_134.2)) (pm_0 (W_Md G a q_147.2)).symm 9 0 rfl rfl rfl rfl rfl (Nat.le_of_ble_eq_true rfl) hl.1 d_Md_readOrder_147 ⟨Nat.zero_le _, Nat.zero_le _⟩ (fun H locs hP hD hS => ?_)
          refine lv_bipush (v := (-6 : Int32)) hx hb d_Md_readOrder_150 (by decide) ?_
          refine lv_icmp_eq (tgt := 181) hx hb d_Md_readOrder_152 (by decide) (fun c_152 => ?_) (fun c_152 => ?_)
          · replace hf := ob_et c_152 hf
            refine lv_iconst (v := (0 : Int32)) hx hb d_Md_readOrder_181 (by decide) ?_
            cases hf
            exact kZ hx hb hr hlk hP hD hS (Or.inl rfl) d_Md_readOrder_182
          · replace hf := ob_ef c_152 hf
            refine lv_aload_n hx hb d_Md_readOrder_155 rfl (lv_at hl 1 rfl) ?_
            refine lv_bipush (v := (61 : Int32)) hx hb d_Md_readOrder_156 (by decide) ?_
            refine lv_bipush (v := (61 : Int32)) hx hb d_Md_readOrder_158 (by decide) ?_
            obtain ⟨q_160, hc_160, hf⟩ := oc_e hf
            refine kcV (cc := c_Md_readOrder) (own := "FloodDiaryModel") (index := 185) (wc := W_Md G a q_147.2) (wr := ([] : va_W)) (wc' := W_Md G a q_160.2) (ws' := W_Md G a q_160.2) hx hb hml hown hts hK hN hA hP hD hS (t_Md_taken l G a (61 : Int32) (61 : Int32) q_147.2 q_160 hc_160) m_Md_taken k_997 ⟨Nat.le_of_ble_eq_true rfl, Nat.le_of_ble_eq_true rfl⟩ (pm_0 (W_Md G a q_147.2)) (pm_0 (W_Md G a q_160.2)).symm 9 0 rfl rfl rfl rfl rfl (Nat.le_of_ble_eq_true rfl) hl.1 d_Md_readOrder_160 ⟨Nat.zero_le _, Nat.zero_le _⟩ (fun H locs hP hD hS => ?_)
            refine lv_bipush (v := (-6 : Int32)) hx hb d_Md_readOrder_163 (by decide) ?_
            refine lv_icmp_eq (tgt := 181) hx hb d_Md_readOrder_165 (by decide) (fun c_165 => ?_) (fun c_165 => ?_)
            · replace hf := ob_et c_165 hf
              refine lv_iconst (v := (0 : Int32)) hx hb d_Md_readOrder_181 (by decide) ?_
              cases hf
              exact kZ hx hb hr hlk hP hD hS (Or.inl rfl) d_Md_readOrder_182
            · replace hf := ob_ef c_165 hf
              refine lv_aload_n hx hb d_Md_readOrder_168 rfl (lv_at hl 1 rfl) ?_
              obtain ⟨q_169, hc_169, hf⟩ := oc_e hf
              refine kcV (cc := c_Md_readOrder) (own := "FloodDiaryModel") (index := 193) (wc := W_Md G a q_160.2) (wr := ([] : va_W)) (wc' := W_Md G a q_169.2) (ws' := W_Md G a q_169.2) hx hb hml hown hts hK hN hA hP hD hS (t_Md_number l G a q_160.2 q_169 hc_169) m_Md_number k_1001 ⟨Nat.le_of_ble_eq_true rfl, Nat.le_of_ble_eq_true rfl⟩ (pm_0 (W_Md G a q_160.2)) (pm_0 (W_Md G a q_169.2)).symm 9 0 rfl rfl rfl rfl rfl (Nat.le_of_ble_eq_true rfl) hl.1 d_Md_readOrder_169 ⟨Nat.zero_le _, Nat.zero_le _⟩ (fun H locs hP hD hS => ?_)
              refine lv_bipush (v := (-6 : Int32)) hx hb d_Md_readOrder_172 (by decide) ?_
              refine lv_icmp_eq (tgt := 181) hx hb d_Md_readOrder_174 (by decide) (fun c_174 => ?_) (fun c_174 => ?_)
              · replace hf := ob_et c_174 hf
                refine lv_iconst (v := (0 : Int32)) hx hb d_Md_readOrder_181 (by decide) ?_
                cases hf
                exact kZ hx hb hr hlk hP hD hS (Or.inl rfl) d_Md_readOrder_182
              · replace hf := ob_ef c_174 hf
                refine lv_iconst (v := (1 : Int32)) hx hb d_Md_readOrder_177 (by decide) ?_
                refine lv_goto (tgt := 182) hx hb d_Md_readOrder_178 (by decide) ?_
                cases hf
                exact kZ hx hb hr hlk hP hD hS (Or.inr rfl) d_Md_readOrder_182
  have J_55 : ∀ (l1 : Int32) (v : V_Md) (H : Heap) (locs : List Loc) (ls : Array Slot), va_P G.1 vwCl (W_Md G a v) H → va_D A (W_Md G a v) → va_S A s.heap H locs → lv_has ls 3 [(0, .ref (a 0)), (1, .int l1)] → f_Md_readOrder_55 l1 v = some q → W p l e (rmk 3 69) s m args below meth c H locs 0 0 (MQ below (qI G A (W_Md G a q.2) (q.1)) args s 0 0 A) (F0 m 55 ls []) := by
    intro l1 v H locs ls hP hD hS hl hf
    unfold f_Md_readOrder_55 at hf
    refine lv_aload_n hx hb d_Md_readOrder_55 rfl (lv_at hl 0 rfl) ?_
    refine lv_dup hx hb d_Md_readOrder_56 rfl ?_
    refine va_get (D := G.1) (ci := 9) (v := .int v.2.2.2.2.2.2.2.2) (C := R_Md) (T := T_Md) (N := 9) hx hb hts in_Md hown hK hP 0 rfl rfl 8 (by decide) (hts _ k_761) (fun _ h9 => h9) rfl d_Md_readOrder_57 ?_
    refine lv_iconst (v := (1 : Int32)) hx hb d_Md_readOrder_60 (by decide) ?_
    refine lv_iadd hx hb d_Md_readOrder_61 ?_
    refine va_put (D := G.1) (ci := 9) (v := .int (v.2.2.2.2.2.2.2.2 + (1 : Int32))) (ty := .int) (C := R_Md) (T := T_Md) (N := 9) hx hb hts in_Md ty_Md ty_Md_ok nm_Md hown hK hP hD hS 0 rfl rfl 8 (by decide) (hts _ k_761) (fun _ h9 => h9) rfl (ty_Md_ok 8 (by decide)) rfl rfl (Nat.le_of_ble_eq_true rfl) d_Md_readOrder_62 (fun H locs hP hD hS => ?_)
    have hP : va_P G.1 vwCl (W_Md G a (v.1, v.2.1, v.2.2.1, v.2.2.2.1, v.2.2.2.2.1, v.2.2.2.2.2.1, v.2.2.2.2.2.2.1, v.2.2.2.2.2.2.2.1, (v.2.2.2.2.2.2.2.2 + (1 : Int32)))) H := hP
    have hD : va_D A (W_Md G a (v.1, v.2.1, v.2.2.1, v.2.2.2.1, v.2.2.2.2.1, v.2.2.2.2.2.1, v.2.2.2.2.2.2.1, v.2.2.2.2.2.2.2.1, (v.2.2.2.2.2.2.2.2 + (1 : Int32)))) := hD
    refine lv_iload_n hx hb d_Md_readOrder_65 rfl (lv_at hl 1 rfl) ?_
    refine lv_bipush (v := (98 : Int32)) hx hb d_Md_readOrder_66 (by decide) ?_
    refine lv_icmp_eq (tgt := 77) hx hb d_Md_readOrder_68 (by decide) (fun c_68 => ?_) (fun c_68 => ?_)
    · replace hf := ob_et c_68 hf
      refine lv_iconst (v := (1 : Int32)) hx hb d_Md_readOrder_77 (by decide) ?_
      cases hf
      exact kZ hx hb hr hlk hP hD hS (Or.inr rfl) d_Md_readOrder_78
    · replace hf := ob_ef c_68 hf
      refine lv_iload_n hx hb d_Md_readOrder_71 rfl (lv_at hl 1 rfl) ?_
      refine lv_bipush (v := (120 : Int32)) hx hb d_Md_readOrder_72 (by decide) ?_
      refine lv_icmp_ne (tgt := 79) hx hb d_Md_readOrder_74 (by decide) (fun c_74 => ?_) (fun c_74 => ?_)
      · replace hf := ob_ef c_74 hf
        refine lv_iload_n hx hb d_Md_readOrder_79 rfl (lv_at hl 1 rfl) ?_
        refine lv_bipush (v := (112 : Int32)) hx hb d_Md_readOrder_80 (by decide) ?_
        refine lv_icmp_ne (tgt := 104) hx hb d_Md_readOrder_82 (by decide) (fun c_82 => ?_) (fun c_82 => ?_)
        · replace hf := ob_ef c_82 hf
          refine lv_aload_n hx hb d_Md_readOrder_104 rfl (lv_at hl 0 rfl) ?_
          obtain ⟨q_105, hc_105, hf⟩ := oc_e hf
          refine kcV (cc := c_Md_readOrder) (own := "FloodDiaryModel") (index := 193) (wc := W_Md G a (v.1, v.2.1, v.2.2.1, v.2.2.2.1, v.2.2.2.2.1, v.2.2.2.2.2.1, v.2.2.2.2.2.2.1, v.2.2.2.2.2.2.2.1, (v.2.2.2.2.2.2.2.2 + (1 : Int32)))) (wr := ([] : va_W)) (wc' := W_Md G a q_105.2) (ws' := W_Md G a q_105.2) hx hb hml hown hts hK hN hA hP hD hS (t_Md_number l G a (v.1, v.2.1, v.2.2.1, v.2.2.2.1, v.2.2.2.2.1, v.2.2.2.2.2.1, v.2.2.2.2.2.2.1, v.2.2.2.2.2.2.2.1, (v.2.2.2.2.2.2.2.2 + (1 : Int32))) q_105 hc_105) m_Md_number k_1001 ⟨Nat.le_of_ble_eq_true rfl, Nat.le_of_ble_eq_true rfl⟩ (pm_0 (W_Md G a (v.1, v.2.1, v.2.2.1, v.2.2.2.1, v.2.2.2.2.1, v.2.2.2.2.2.1, v.2.2.2.2.2.2.1, v.2.2.2.2.2.2.2.1, (v.2.2.2.2.2.2.2.2 + (1 : Int32))))) (pm_0 (W_Md G a q_105.2)).symm 9 0 rfl rfl rfl rfl rfl (Nat.le_of_ble_eq_true rfl) hl.1 d_Md_readOrder_105 ⟨Nat.zero_le _, Nat.zero_le _⟩ (fun H locs hP hD hS => ?_)
          refine lv_bipush (v := (-6 : Int32)) hx hb d_Md_readOrder_108 (by decide) ?_
          refine lv_icmp_eq (tgt := 117) hx hb d_Md_readOrder_110 (by decide) (fun c_110 => ?_) (fun c_110 => ?_)
          · replace hf := ob_et c_110 hf
            refine lv_iconst (v := (0 : Int32)) hx hb d_Md_readOrder_117 (by decide) ?_
            exact J_118 l1 (0 : Int32) q_105.2 _ _ ls hP hD hS (lv_sub hl [0, 1] rfl) hf
          · replace hf := ob_ef c_110 hf
            refine lv_iconst (v := (1 : Int32)) hx hb d_Md_readOrder_113 (by decide) ?_
            refine lv_goto (tgt := 118) hx hb d_Md_readOrder_114 (by decide) ?_
            exact J_118 l1 (1 : Int32) q_105.2 _ _ ls hP hD hS (lv_sub hl [0, 1] rfl) hf
        · replace hf := ob_et c_82 hf
          refine lv_aload_n hx hb d_Md_readOrder_85 rfl (lv_at hl 0 rfl) ?_
          refine lv_bipush (v := (48 : Int32)) hx hb d_Md_readOrder_86 (by decide) ?_
          refine lv_bipush (v := (55 : Int32)) hx hb d_Md_readOrder_88 (by decide) ?_
          obtain ⟨q_90, hc_90, hf⟩ := oc_e hf
          refine kcV (cc := c_Md_readOrder) (own := "FloodDiaryModel") (index := 185) (wc := W_Md G a (v.1, v.2.1, v.2.2.1, v.2.2.2.1, v.2.2.2.2.1, v.2.2.2.2.2.1, v.2.2.2.2.2.2.1, v.2.2.2.2.2.2.2.1, (v.2.2.2.2.2.2.2.2 + (1 : Int32)))) (wr := ([] : va_W)) (wc' := W_Md G a q_90.2) (ws' := W_Md G a q_90.2) hx hb hml hown hts hK hN hA hP hD hS (t_Md_taken l G a (48 : Int32) (55 : Int32) (v.1, v.2.1, v.2.2.1, v.2.2.2.1, v.2.2.2.2.1, v.2.2.2.2.2.1, v.2.2.2.2.2.2.1, v.2.2.2.2.2.2.2.1, (v.2.2.2.2.2.2.2.2 + (1 : Int32))) q_90 hc_90) m_Md_taken k_997 ⟨Nat.le_of_ble_eq_true rfl, Nat.le_of_ble_eq_true rfl⟩ (pm_0 (W_Md G a (v.1, v.2.1, v.2.2.1, v.2.2.2.1, v.2.2.2.2.1, v.2.2.2.2.2.1, v.2.2.2.2.2.2.1, v.2.2.2.2.2.2.2.1, (v.2.2.2.2.2.2.2.2 + (1 : Int32))))) (pm_0 (W_Md G a q_90.2)).symm 9 0 rfl rfl rfl rfl rfl (Nat.le_of_ble_eq_true rfl) hl.1 d_Md_readOrder_90 ⟨Nat.zero_le _, Nat.zero_le _⟩ (fun H locs hP hD hS => ?_)
          refine lv_bipush (v := (-6 : Int32)) hx hb d_Md_readOrder_93 (by decide) ?_
          refine lv_icmp_eq (tgt := 102) hx hb d_Md_readOrder_95 (by decide) (fun c_95 => ?_) (fun c_95 => ?_)
          · replace hf := ob_et c_95 hf
            refine lv_iconst (v := (0 : Int32)) hx hb d_Md_readOrder_102 (by decide) ?_
            cases hf
            exact kZ hx hb hr hlk hP hD hS (Or.inl rfl) d_Md_readOrder_103
          · replace hf := ob_ef c_95 hf
            refine lv_iconst (v := (1 : Int32)) hx hb d_Md_readOrder_98 (by decide) ?_
            refine lv_goto (tgt := 103) hx hb d_Md_readOrder_99 (by decide) ?_
            cases hf
            exact kZ hx hb hr hlk hP hD hS (Or.inr rfl) d_Md_readOrder_103
      · replace hf := ob_et c_74 hf
        refine lv_iconst (v := (1 : Int32)) hx hb d_Md_readOrder_77 (by decide) ?_
        cases hf
        exact kZ hx hb hr hlk hP hD hS (Or.inr rfl) d_Md_readOrder_78
  unfold f_Md_readOrder at hf
  refine lv_aload_n hx hb d_Md_readOrder_0 rfl (lv_at hl 0 rfl) ?_
  obtain ⟨q_1, hc_1, hf⟩ := oc_e hf
  refine kcV (cc := c_Md_readOrder) (own := "FloodDiaryModel") (index := 182) (wc := W_Md G a v) (wr := ([] : va_W)) (wc' := W_Md G a v) (ws' := W_Md G a v) hx hb hml hown hts hK hN hA hP hD hS (t_Md_sign l G a v q_1 hc_1) m_Md_sign k_993 ⟨Nat.le_of_ble_eq_true rfl, Nat.le_of_ble_eq_true rfl⟩ (pm_0 (W_Md G a v)) (pm_0 (W_Md G a v)).symm 9 0 rfl rfl rfl rfl rfl (Nat.le_of_ble_eq_true rfl) hl.1 d_Md_readOrder_1 ⟨Nat.zero_le _, Nat.zero_le _⟩ (fun H locs hP hD hS => ?_)
  refine lv_istore_n (lv' := [(1, .int q_1), (0, .ref (a 0))]) hx hb d_Md_readOrder_4 rfl hl (by decide) rfl (fun ls hl => ?_)
  refine lv_iload_n hx hb d_Md_readOrder_5 rfl (lv_at hl 0 rfl) ?_
  refine lv_bipush (v := (98 : Int32)) hx hb d_Md_readOrder_6 (by decide) ?_
  refine lv_icmp_eq (tgt := 55) hx hb d_Md_readOrder_8 (by decide) (fun c_8 => ?_) (fun c_8 => ?_)
  · replace hf := ob_et c_8 hf
    exact J_55 q_1 v _ _ ls hP hD hS (lv_sub hl [1, 0] rfl) hf
  · replace hf := ob_ef c_8 hf
    refine lv_iload_n hx hb d_Md_readOrder_11 rfl (lv_at hl 0 rfl) ?_
    refine lv_bipush (v := (119 : Int32)) hx hb d_Md_readOrder_12 (by decide) ?_
    refine lv_icmp_eq (tgt := 55) hx hb d_Md_readOrder_14 (by decide) (fun c_14 => ?_) (fun c_14 => ?_)
    · replace hf := ob_et c_14 hf
      exact J_55 q_1 v _ _ ls hP hD hS (lv_sub hl [1, 0] rfl) hf
    · replace hf := ob_ef c_14 hf
      refine lv_iload_n hx hb d_Md_readOrder_17 rfl (lv_at hl 0 rfl) ?_
      refine lv_bipush (v := (102 : Int32)) hx hb d_Md_readOrder_18 (by decide) ?_
      refine lv_icmp_eq (tgt := 55) hx hb d_Md_readOrder_20 (by decide) (fun c_20 => ?_) (fun c_20 => ?_)
      · replace hf := ob_et c_20 hf
        exact J_55 q_1 v _ _ ls hP hD hS (lv_sub hl [1, 0] rfl) hf
      · replace hf := ob_ef c_20 hf
        refine lv_iload_n hx hb d_Md_readOrder_23 rfl (lv_at hl 0 rfl) ?_
        refine lv_bipush (v := (116 : Int32)) hx hb d_Md_readOrder_24 (by decide) ?_
        refine lv_icmp_eq (tgt := 55) hx hb d_Md_readOrder_26 (by decide) (fun c_26 => ?_) (fun c_26 => ?_)
        · replace hf := ob_et c_26 hf
          exact J_55 q_1 v _ _ ls hP hD hS (lv_sub hl [1, 0] rfl) hf
        · replace hf := ob_ef c_26 hf
          refine lv_iload_n hx hb d_Md_readOrder_29 rfl (lv_at hl 0 rfl) ?_
          refine lv_bipush (v := (112 : Int32)) hx hb d_Md_readOrder_30 (by decide) ?_
          refine lv_icmp_eq (tgt := 55) hx hb d_Md_readOrder_32 (by decide) (fun c_32 => ?_) (fun c_32 => ?_)
          · replace hf := ob_et c_32 hf
            exact J_55 q_1 v _ _ ls hP hD hS (lv_sub hl [1, 0] rfl) hf
          · replace hf := ob_ef c_32 hf
            refine lv_iload_n hx hb d_Md_readOrder_35 rfl (lv_at hl 0 rfl) ?_
            refine lv_bipush (v := (115 : Int32)) hx hb d_Md_readOrder_36 (by decide) ?_
            refine lv_icmp_eq (tgt := 55) hx hb d_Md_readOrder_38 (by decide) (fun c_38 => ?_) (fun c_38 => ?_)
            · replace hf := ob_et c_38 hf
              exact J_55 q_1 v _ _ ls hP hD hS (lv_sub hl [1, 0] rfl) hf
            · replace hf := ob_ef c_38 hf
              refine lv_iload_n hx hb d_Md_readOrder_41 rfl (lv_at hl 0 rfl) ?_
              refine lv_bipush (v := (120 : Int32)) hx hb d_Md_readOrder_42 (by decide) ?_
              refine lv_icmp_eq (tgt := 55) hx hb d_Md_readOrder_44 (by decide) (fun c_44 => ?_) (fun c_44 => ?_)
              · replace hf := ob_et c_44 hf
                exact J_55 q_1 v _ _ ls hP hD hS (lv_sub hl [1, 0] rfl) hf
              · replace hf := ob_ef c_44 hf
                refine lv_iload_n hx hb d_Md_readOrder_47 rfl (lv_at hl 0 rfl) ?_
                refine lv_bipush (v := (109 : Int32)) hx hb d_Md_readOrder_48 (by decide) ?_
                refine lv_icmp_eq (tgt := 55) hx hb d_Md_readOrder_50 (by decide) (fun c_50 => ?_) (fun c_50 => ?_)
                · replace hf := ob_et c_50 hf
                  exact J_55 q_1 v _ _ ls hP hD hS (lv_sub hl [1, 0] rfl) hf
                · replace hf := ob_ef c_50 hf
                  refine lv_iconst (v := (0 : Int32)) hx hb d_Md_readOrder_53 (by decide) ?_
                  cases hf
                  exact kZ hx hb hr hlk hP hD hS (Or.inl rfl) d_Md_readOrder_54
set_option maxHeartbeats 4000000 in
set_option maxRecDepth 100000 in
theorem t_Md_fault (l : Launch) (G : GG) (a : Nat → Nat) (v : V_Md) (q : Int32 × V_Md) (hf : f_Md_fault v = some q) : MI l G y_Md_fault c_Md_fault 2 (some .int) (rmk 4 91) (W_Md G a v) [.ref (a 0)] (W_Md G a q.2) (q.1) := by
  refine ofI "FloodDiaryModel" (by decide +kernel) rfl (Nat.le_of_ble_eq_true rfl) (fun p e s m args below meth c A ls hx hb hr hml hown hts hlk hK hN hA hP hD hS hl => ?_)
  have hl : lv_has ls 2 [(0, .ref (a 0))] := hl
  have J_7 : ∀ (n_7 : Nat) (l1 : Int32) (v : V_Md) (H : Heap) (locs : List Loc) (ls : Array Slot), va_P G.1 vwCl (W_Md G a v) H → va_D A (W_Md G a v) → va_S A s.heap H locs → lv_has ls 2 [(0, .ref (a 0)), (1, .int l1)] → f_Md_fault_7 n_7 l1 v = some q → W p l e (rmk 4 91) s m args below meth c H locs 0 0 (MQ below (qI G A (W_Md G a q.2) (q.1)) args s 0 0 A) (F0 m 7 ls []) := by
    intro n_7
    induction n_7 with
    | zero => intro l1 v H locs ls hP hD hS hl hf; exact absurd hf (by unfold f_Md_fault_7; exact fun z => by cases z)
    | succ n_7 ih_7 =>
      intro l1 v H locs ls hP hD hS hl hf
      rw [f_Md_fault_7] at hf
      refine lv_iload_n hx hb d_Md_fault_7 rfl (lv_at hl 1 rfl) ?_
      refine lv_if_eq (tgt := 45) hx hb d_Md_fault_8 (by decide) (fun c_8 => ?_) (fun c_8 => ?_)
      · replace hf := ob_et c_8 hf
        refine lv_aload_n hx hb d_Md_fault_45 rfl (lv_at hl 0 rfl) ?_
        refine va_get (D := G.1) (ci := 9) (v := .int v.2.2.2.2.2.2.2.2) (C := R_Md) (T := T_Md) (N := 9) hx hb hts in_Md hown hK hP 0 rfl rfl 8 (by decide) (hts _ k_761) (fun _ h9 => h9) rfl d_Md_fault_46 ?_
        refine lv_aload_n hx hb d_Md_fault_49 rfl (lv_at hl 0 rfl) ?_
        refine va_get (D := G.1) (ci := 9) (v := .int v.2.2.2.2.2.2.2.1) (C := R_Md) (T := T_Md) (N := 9) hx hb hts in_Md hown hK hP 0 rfl rfl 7 (by decide) (hts _ k_760) (fun _ h9 => h9) rfl d_Md_fault_50 ?_
        refine lv_icmp_ge (tgt := 63) hx hb d_Md_fault_53 (by decide) (fun c_53 => ?_) (fun c_53 => ?_)
        · replace hf := ob_et c_53 hf
          refine lv_bipush (v := (-6 : Int32)) hx hb d_Md_fault_63 (by decide) ?_
          cases hf
          exact kI hx hb hr hlk hP hD hS d_Md_fault_65
        · replace hf := ob_ef c_53 hf
          refine lv_aload_n hx hb d_Md_fault_56 rfl (lv_at hl 0 rfl) ?_
          refine va_get (D := G.1) (ci := 9) (v := .int v.2.2.2.2.2.2.2.2) (C := R_Md) (T := T_Md) (N := 9) hx hb hts in_Md hown hK hP 0 rfl rfl 8 (by decide) (hts _ k_761) (fun _ h9 => h9) rfl d_Md_fault_57 ?_
          refine lv_goto (tgt := 65) hx hb d_Md_fault_60 (by decide) ?_
          cases hf
          exact kI hx hb hr hlk hP hD hS d_Md_fault_65
      · replace hf := ob_ef c_8 hf
        refine lv_aload_n hx hb d_Md_fault_11 rfl (lv_at hl 0 rfl) ?_
        obtain ⟨q_12, hc_12, hf⟩ := oc_e hf
        refine kcV (cc := c_Md_fault) (own := "FloodDiaryModel") (index := 196) (wc := W_Md G a v) (wr := ([] : va_W)) (wc' := W_Md G a q_12.2) (ws' := W_Md G a q_12.2) hx hb hml hown hts hK hN hA hP hD hS (t_Md_readOrder l G a v q_12 hc_12) m_Md_readOrder k_989 ⟨Nat.le_of_ble_eq_true rfl, Nat.le_of_ble_eq_true rfl⟩ (pm_0 (W_Md G a v)) (pm_0 (W_Md G a q_12.2)).symm 9 0 rfl rfl rfl rfl rfl (Nat.le_of_ble_eq_true rfl) hl.1 d_Md_fault_12 ⟨Nat.zero_le _, Nat.zero_le _⟩ (fun H locs hP hD hS => ?_)
        refine lv_if_ne (tgt := 23) hx hb d_Md_fault_15 (by decide) (fun c_15 => ?_) (fun c_15 => ?_)
        · replace hf := ob_ef c_15 hf
          refine lv_aload_n hx hb d_Md_fault_23 rfl (lv_at hl 0 rfl) ?_
          refine lv_bipush (v := (59 : Int32)) hx hb d_Md_fault_24 (by decide) ?_
          refine lv_bipush (v := (59 : Int32)) hx hb d_Md_fault_26 (by decide) ?_
          obtain ⟨q_28, hc_28, hf⟩ := oc_e hf
          refine kcV (cc := c_Md_fault) (own := "FloodDiaryModel") (index := 185) (wc := W_Md G a q_12.2) (wr := ([] : va_W)) (wc' := W_Md G a q_28.2) (ws' := W_Md G a q_28.2) hx hb hml hown hts hK hN hA hP hD hS (t_Md_taken l G a (59 : Int32) (59 : Int32) q_12.2 q_28 hc_28) m_Md_taken k_997 ⟨Nat.le_of_ble_eq_true rfl, Nat.le_of_ble_eq_true rfl⟩ (pm_0 (W_Md G a q_12.2)) (pm_0 (W_Md G a q_28.2)).symm 9 0 rfl rfl rfl rfl rfl (Nat.le_of_ble_eq_true rfl) hl.1 d_Md_fault_28 ⟨Nat.zero_le _, Nat.zero_le _⟩ (fun H locs hP hD hS => ?_)
          refine lv_bipush (v := (-6 : Int32)) hx hb d_Md_fault_31 (by decide) ?_
          refine lv_icmp_eq (tgt := 40) hx hb d_Md_fault_33 (by decide) (fun c_33 => ?_) (fun c_33 => ?_)
          · replace hf := ob_et c_33 hf
            refine lv_iconst (v := (0 : Int32)) hx hb d_Md_fault_40 (by decide) ?_
            refine lv_istore_n (lv' := [(1, .int (0 : Int32)), (0, .ref (a 0))]) hx hb d_Md_fault_41 rfl hl (by decide) rfl (fun ls hl => ?_)
            refine lv_goto (tgt := 7) hx hb d_Md_fault_42 (by decide) ?_
            exact ih_7 (0 : Int32) q_28.2 _ _ ls hP hD hS (lv_sub hl [1, 0] rfl) hf
          · replace hf := ob_ef c_33 hf
            refine lv_iconst (v := (1 : Int32)) hx hb d_Md_fault_36 (by decide) ?_
            refine lv_goto (tgt := 41) hx hb d_Md_fault_37 (by decide) ?_
            refine lv_istore_n (lv' := [(1, .int (1 : Int32)), (0, .ref (a 0))]) hx hb d_Md_fault_41 rfl hl (by decide) rfl (fun ls hl => ?_)
            refine lv_goto (tgt := 7) hx hb d_Md_fault_42 (by decide) ?_
            exact ih_7 (1 : Int32) q_28.2 _ _ ls hP hD hS (lv_sub hl [1, 0] rfl) hf
        · replace hf := ob_et c_15 hf
          refine lv_aload_n hx hb d_Md_fault_18 rfl (lv_at hl 0 rfl) ?_
          refine va_get (D := G.1) (ci := 9) (v := .int q_12.2.2.2.2.2.2.2.2.2) (C := R_Md) (T := T_Md) (N := 9) hx hb hts in_Md hown hK hP 0 rfl rfl 8 (by decide) (hts _ k_761) (fun _ h9 => h9) rfl d_Md_fault_19 ?_
          cases hf
          exact kI hx hb hr hlk hP hD hS d_Md_fault_22
  unfold f_Md_fault at hf
  refine lv_aload_n hx hb d_Md_fault_0 rfl (lv_at hl 0 rfl) ?_
  refine lv_iconst (v := (0 : Int32)) hx hb d_Md_fault_1 (by decide) ?_
  refine va_put (D := G.1) (ci := 9) (v := .int (0 : Int32)) (ty := .int) (C := R_Md) (T := T_Md) (N := 9) hx hb hts in_Md ty_Md ty_Md_ok nm_Md hown hK hP hD hS 0 rfl rfl 8 (by decide) (hts _ k_761) (fun _ h9 => h9) rfl (ty_Md_ok 8 (by decide)) rfl rfl (Nat.le_of_ble_eq_true rfl) d_Md_fault_2 (fun H locs hP hD hS => ?_)
  have hP : va_P G.1 vwCl (W_Md G a (v.1, v.2.1, v.2.2.1, v.2.2.2.1, v.2.2.2.2.1, v.2.2.2.2.2.1, v.2.2.2.2.2.2.1, v.2.2.2.2.2.2.2.1, (0 : Int32))) H := hP
  have hD : va_D A (W_Md G a (v.1, v.2.1, v.2.2.1, v.2.2.2.1, v.2.2.2.2.1, v.2.2.2.2.2.1, v.2.2.2.2.2.2.1, v.2.2.2.2.2.2.2.1, (0 : Int32))) := hD
  refine lv_iconst (v := (1 : Int32)) hx hb d_Md_fault_5 (by decide) ?_
  refine lv_istore_n (lv' := [(1, .int (1 : Int32)), (0, .ref (a 0))]) hx hb d_Md_fault_6 rfl hl (by decide) rfl (fun ls hl => ?_)
  exact J_7 FU (1 : Int32) (v.1, v.2.1, v.2.2.1, v.2.2.2.1, v.2.2.2.2.1, v.2.2.2.2.2.1, v.2.2.2.2.2.2.1, v.2.2.2.2.2.2.2.1, (0 : Int32)) _ _ ls hP hD hS (lv_sub hl [1, 0] rfl) hf
set_option maxHeartbeats 4000000 in
set_option maxRecDepth 100000 in
theorem t_Md_doOrder (l : Launch) (G : GG) (a : Nat → Nat) (v : V_Md) (q : Int32 × V_Md) (hf : f_Md_doOrder v = some q) : MI l G y_Md_doOrder c_Md_doOrder 6 (some .boolean) (rmk 6 139) (W_Md G a v) [.ref (a 0)] (W_Md G a q.2) (q.1) := by
  refine ofI "FloodDiaryModel" (by decide +kernel) rfl (Nat.le_of_ble_eq_true rfl) (fun p e s m args below meth c A ls hx hb hr hml hown hts hlk hK hN hA hP hD hS hl => ?_)
  have hl : lv_has ls 6 [(0, .ref (a 0))] := hl
  have J_403 : ∀ (l2 : Int32) (v : V_Md) (H : Heap) (locs : List Loc) (ls : Array Slot), va_P G.1 vwCl (W_Md G a v) H → va_D A (W_Md G a v) → va_S A s.heap H locs → lv_has ls 6 [(0, .ref (a 0)), (2, .int l2)] → f_Md_doOrder_403 l2 v = some q → W p l e (rmk 6 139) s m args below meth c H locs 0 0 (MQ below (qI G A (W_Md G a q.2) (q.1)) args s 0 0 A) (F0 m 403 ls []) := by
    intro l2 v H locs ls hP hD hS hl hf
    unfold f_Md_doOrder_403 at hf
    refine lv_iload_n hx hb d_Md_doOrder_403 rfl (lv_at hl 1 rfl) ?_
    refine lv_if_le (tgt := 422) hx hb d_Md_doOrder_404 (by decide) (fun c_404 => ?_) (fun c_404 => ?_)
    · replace hf := ob_et c_404 hf
      refine lv_iconst (v := (0 : Int32)) hx hb d_Md_doOrder_422 (by decide) ?_
      refine lv_istore_n (lv' := [(3, .int (0 : Int32)), (0, .ref (a 0)), (2, .int l2)]) hx hb d_Md_doOrder_423 rfl hl (by decide) rfl (fun ls hl => ?_)
      refine lv_iload_n hx hb d_Md_doOrder_424 rfl (lv_at hl 0 rfl) ?_
      refine lv_if_eq (tgt := 437) hx hb d_Md_doOrder_425 (by decide) (fun c_425 => ?_) (fun c_425 => ?_)
      · replace hf := ob_et c_425 hf
        refine lv_iload_n hx hb d_Md_doOrder_437 rfl (lv_at hl 0 rfl) ?_
        cases hf
        exact kZ hx hb hr hlk hP hD hS (Or.inl rfl) d_Md_doOrder_438
      · replace hf := ob_ef c_425 hf
        refine lv_aload_n hx hb d_Md_doOrder_428 rfl (lv_at hl 1 rfl) ?_
        refine va_get (D := G.1) (ci := 9) (v := .ref (a 1)) (C := R_Md) (T := T_Md) (N := 9) hx hb hts in_Md hown hK hP 0 rfl rfl 0 (by decide) (hts _ k_753) (fun _ h9 => h9) rfl d_Md_doOrder_429 ?_
        refine lv_iload_n hx hb d_Md_doOrder_432 rfl (lv_at hl 2 rfl) ?_
        obtain ⟨q_433, hc_433, hf⟩ := oc_e hf
        refine kcS (cc := c_Md_doOrder) (own := "FloodDiaryModel") (index := 154) (wc := W_Row G 2400 (a 1) v.1) (wr := O_Md G a v ++ (W_Row G 2400 (a 2) v.2.1 ++ (W_Row G 14400 (a 3) v.2.2.1 ++ (W_Row G 4800 (a 4) v.2.2.2.2.1 ++ (W_RowZ G 2 (a 5) v.2.2.2.2.2.1 ++ (W_Row G 80 (a 6) v.2.2.2.2.2.2.1 ++ (([] : va_W)))))))) (wc' := W_Row G 2400 (a 1) q_433.2) (ws' := W_Md G a (q_433.2, v.2.1, v.2.2.1, v.2.2.2.1, v.2.2.2.2.1, v.2.2.2.2.2.1, v.2.2.2.2.2.2.1, v.2.2.2.2.2.2.2.1, v.2.2.2.2.2.2.2.2)) hx hb hml hown hts hK hN hA hP hD hS (t_Md_mendOn l G (a 1) l2 v.1 q_433 hc_433) m_Md_mendOn k_912 ⟨Nat.le_of_ble_eq_true rfl, Nat.le_of_ble_eq_true rfl⟩ (pm_12 (O_Md G a v) (W_Row G 2400 (a 1) v.1) (W_Row G 2400 (a 2) v.2.1) (W_Row G 14400 (a 3) v.2.2.1) (W_Row G 4800 (a 4) v.2.2.2.2.1) (W_RowZ G 2 (a 5) v.2.2.2.2.2.1) (W_Row G 80 (a 6) v.2.2.2.2.2.2.1)) (pm_12 (O_Md G a (q_433.2, v.2.1, v.2.2.1, v.2.2.2.1, v.2.2.2.2.1, v.2.2.2.2.2.1, v.2.2.2.2.2.2.1, v.2.2.2.2.2.2.2.1, v.2.2.2.2.2.2.2.2)) (W_Row G 2400 (a 1) q_433.2) (W_Row G 2400 (a 2) v.2.1) (W_Row G 14400 (a 3) v.2.2.1) (W_Row G 4800 (a 4) v.2.2.2.2.1) (W_RowZ G 2 (a 5) v.2.2.2.2.2.1) (W_Row G 80 (a 6) v.2.2.2.2.2.2.1)).symm rfl rfl (Nat.le_of_ble_eq_true rfl) hl.1 d_Md_doOrder_433 ⟨Nat.zero_le _, Nat.zero_le _⟩ (fun H locs hP hD hS => ?_)
        refine lv_pop hx hb d_Md_doOrder_436 rfl ?_
        refine lv_iload_n hx hb d_Md_doOrder_437 rfl (lv_at hl 0 rfl) ?_
        cases hf
        exact kZ hx hb hr hlk hP hD hS (Or.inl rfl) d_Md_doOrder_438
    · replace hf := ob_ef c_404 hf
      refine lv_aload_n hx hb d_Md_doOrder_407 rfl (lv_at hl 0 rfl) ?_
      refine va_get (D := G.1) (ci := 9) (v := .ref (a 1)) (C := R_Md) (T := T_Md) (N := 9) hx hb hts in_Md hown hK hP 0 rfl rfl 0 (by decide) (hts _ k_753) (fun _ h9 => h9) rfl d_Md_doOrder_408 ?_
      refine lv_bipush (v := (59 : Int32)) hx hb d_Md_doOrder_411 (by decide) ?_
      obtain ⟨g_413, hf⟩ := og_e hf
      refine va_iald hx hb hK hP 1 0 rfl rfl g_413 d_Md_doOrder_413 ?_
      refine lv_iconst (v := (1 : Int32)) hx hb d_Md_doOrder_414 (by decide) ?_
      refine lv_icmp_ne (tgt := 422) hx hb d_Md_doOrder_415 (by decide) (fun c_415 => ?_) (fun c_415 => ?_)
      · replace hf := ob_ef c_415 hf
        refine lv_iconst (v := (0 : Int32)) hx hb d_Md_doOrder_422 (by decide) ?_
        refine lv_istore_n (lv' := [(3, .int (0 : Int32)), (0, .ref (a 0)), (2, .int l2)]) hx hb d_Md_doOrder_423 rfl hl (by decide) rfl (fun ls hl => ?_)
        refine lv_iload_n hx hb d_Md_doOrder_424 rfl (lv_at hl 0 rfl) ?_
        refine lv_if_eq (tgt := 437) hx hb d_Md_doOrder_425 (by decide) (fun c_425 => ?_) (fun c_425 => ?_)
        · replace hf := ob_et c_425 hf
          refine lv_iload_n hx hb d_Md_doOrder_437 rfl (lv_at hl 0 rfl) ?_
          cases hf
          exact kZ hx hb hr hlk hP hD hS (Or.inl rfl) d_Md_doOrder_438
        · replace hf := ob_ef c_425 hf
          refine lv_aload_n hx hb d_Md_doOrder_428 rfl (lv_at hl 1 rfl) ?_
          refine va_get (D := G.1) (ci := 9) (v := .ref (a 1)) (C := R_Md) (T := T_Md) (N := 9) hx hb hts in_Md hown hK hP 0 rfl rfl 0 (by decide) (hts _ k_753) (fun _ h9 => h9) rfl d_Md_doOrder_429 ?_
          refine lv_iload_n hx hb d_Md_doOrder_432 rfl (lv_at hl 2 rfl) ?_
          obtain ⟨q_433, hc_433, hf⟩ := oc_e hf
          refine kcS (cc := c_Md_doOrder) (own := "FloodDiaryModel") (index := 154) (wc := W_Row G 2400 (a 1) v.1) (wr := O_Md G a v ++ (W_Row G 2400 (a 2) v.2.1 ++ (W_Row G 14400 (a 3) v.2.2.1 ++ (W_Row G 4800 (a 4) v.2.2.2.2.1 ++ (W_RowZ G 2 (a 5) v.2.2.2.2.2.1 ++ (W_Row G 80 (a 6) v.2.2.2.2.2.2.1 ++ (([] : va_W)))))))) (wc' := W_Row G 2400 (a 1) q_433.2) (ws' := W_Md G a (q_433.2, v.2.1, v.2.2.1, v.2.2.2.1, v.2.2.2.2.1, v.2.2.2.2.2.1, v.2.2.2.2.2.2.1, v.2.2.2.2.2.2.2.1, v.2.2.2.2.2.2.2.2)) hx hb hml hown hts hK hN hA hP hD hS (t_Md_mendOn l G (a 1) l2 v.1 q_433 hc_433) m_Md_mendOn k_912 ⟨Nat.le_of_ble_eq_true rfl, Nat.le_of_ble_eq_true rfl⟩ (pm_12 (O_Md G a v) (W_Row G 2400 (a 1) v.1) (W_Row G 2400 (a 2) v.2.1) (W_Row G 14400 (a 3) v.2.2.1) (W_Row G 4800 (a 4) v.2.2.2.2.1) (W_RowZ G 2 (a 5) v.2.2.2.2.2.1) (W_Row G 80 (a 6) v.2.2.2.2.2.2.1)) (pm_12 (O_Md G a (q_433.2, v.2.1, v.2.2.1, v.2.2.2.1, v.2.2.2.2.1, v.2.2.2.2.2.1, v.2.2.2.2.2.2.1, v.2.2.2.2.2.2.2.1, v.2.2.2.2.2.2.2.2)) (W_Row G 2400 (a 1) q_433.2) (W_Row G 2400 (a 2) v.2.1) (W_Row G 14400 (a 3) v.2.2.1) (W_Row G 4800 (a 4) v.2.2.2.2.1) (W_RowZ G 2 (a 5) v.2.2.2.2.2.1) (W_Row G 80 (a 6) v.2.2.2.2.2.2.1)).symm rfl rfl (Nat.le_of_ble_eq_true rfl) hl.1 d_Md_doOrder_433 ⟨Nat.zero_le _, Nat.zero_le _⟩ (fun H locs hP hD hS => ?_)
          refine lv_pop hx hb d_Md_doOrder_436 rfl ?_
          refine lv_iload_n hx hb d_Md_doOrder_437 rfl (lv_at hl 0 rfl) ?_
          cases hf
          exact kZ hx hb hr hlk hP hD hS (Or.inl rfl) d_Md_doOrder_438
      · replace hf := ob_et c_415 hf
        refine lv_iconst (v := (1 : Int32)) hx hb d_Md_doOrder_418 (by decide) ?_
        refine lv_goto (tgt := 423) hx hb d_Md_doOrder_419 (by decide) ?_
        refine lv_istore_n (lv' := [(3, .int (1 : Int32)), (0, .ref (a 0)), (2, .int l2)]) hx hb d_Md_doOrder_423 rfl hl (by decide) rfl (fun ls hl => ?_)
        refine lv_iload_n hx hb d_Md_doOrder_424 rfl (lv_at hl 0 rfl) ?_
        refine lv_if_eq (tgt := 437) hx hb d_Md_doOrder_425 (by decide) (fun c_425 => ?_) (fun c_425 => ?_)
        · replace hf := ob_et c_425 hf
          refine lv_iload_n hx hb d_Md_doOrder_437 rfl (lv_at hl 0 rfl) ?_
          cases hf
          exact kZ hx hb hr hlk hP hD hS (Or.inr rfl) d_Md_doOrder_438
        · replace hf := ob_ef c_425 hf
          refine lv_aload_n hx hb d_Md_doOrder_428 rfl (lv_at hl 1 rfl) ?_
          refine va_get (D := G.1) (ci := 9) (v := .ref (a 1)) (C := R_Md) (T := T_Md) (N := 9) hx hb hts in_Md hown hK hP 0 rfl rfl 0 (by decide) (hts _ k_753) (fun _ h9 => h9) rfl d_Md_doOrder_429 ?_
          refine lv_iload_n hx hb d_Md_doOrder_432 rfl (lv_at hl 2 rfl) ?_
          obtain ⟨q_433, hc_433, hf⟩ := oc_e hf
          refine kcS (cc := c_Md_doOrder) (own := "FloodDiaryModel") (index := 154) (wc := W_Row G 2400 (a 1) v.1) (wr := O_Md G a v ++ (W_Row G 2400 (a 2) v.2.1 ++ (W_Row G 14400 (a 3) v.2.2.1 ++ (W_Row G 4800 (a 4) v.2.2.2.2.1 ++ (W_RowZ G 2 (a 5) v.2.2.2.2.2.1 ++ (W_Row G 80 (a 6) v.2.2.2.2.2.2.1 ++ (([] : va_W)))))))) (wc' := W_Row G 2400 (a 1) q_433.2) (ws' := W_Md G a (q_433.2, v.2.1, v.2.2.1, v.2.2.2.1, v.2.2.2.2.1, v.2.2.2.2.2.1, v.2.2.2.2.2.2.1, v.2.2.2.2.2.2.2.1, v.2.2.2.2.2.2.2.2)) hx hb hml hown hts hK hN hA hP hD hS (t_Md_mendOn l G (a 1) l2 v.1 q_433 hc_433) m_Md_mendOn k_912 ⟨Nat.le_of_ble_eq_true rfl, Nat.le_of_ble_eq_true rfl⟩ (pm_12 (O_Md G a v) (W_Row G 2400 (a 1) v.1) (W_Row G 2400 (a 2) v.2.1) (W_Row G 14400 (a 3) v.2.2.1) (W_Row G 4800 (a 4) v.2.2.2.2.1) (W_RowZ G 2 (a 5) v.2.2.2.2.2.1) (W_Row G 80 (a 6) v.2.2.2.2.2.2.1)) (pm_12 (O_Md G a (q_433.2, v.2.1, v.2.2.1, v.2.2.2.1, v.2.2.2.2.1, v.2.2.2.2.2.1, v.2.2.2.2.2.2.1, v.2.2.2.2.2.2.2.1, v.2.2.2.2.2.2.2.2)) (W_Row G 2400 (a 1) q_433.2) (W_Row G 2400 (a 2) v.2.1) (W_Row G 14400 (a 3) v.2.2.1) (W_Row G 4800 (a 4) v.2.2.2.2.1) (W_RowZ G 2 (a 5) v.2.2.2.2.2.1) (W_Row G 80 (a 6) v.2.2.2.2.2.2.1)).symm rfl rfl (Nat.le_of_ble_eq_true rfl) hl.1 d_Md_doOrder_433 ⟨Nat.zero_le _, Nat.zero_le _⟩ (fun H locs hP hD hS => ?_)
          refine lv_pop hx hb d_Md_doOrder_436 rfl ?_
          refine lv_iload_n hx hb d_Md_doOrder_437 rfl (lv_at hl 0 rfl) ?_
          cases hf
          exact kZ hx hb hr hlk hP hD hS (Or.inr rfl) d_Md_doOrder_438
  have J_52 : ∀ (l1 : Int32) (s0 : Int32) (v : V_Md) (H : Heap) (locs : List Loc) (ls : Array Slot), va_P G.1 vwCl (W_Md G a v) H → va_D A (W_Md G a v) → va_S A s.heap H locs → lv_has ls 6 [(0, .ref (a 0)), (1, .int l1)] → f_Md_doOrder_52 l1 s0 v = some q → W p l e (rmk 6 139) s m args below meth c H locs 0 0 (MQ below (qI G A (W_Md G a q.2) (q.1)) args s 0 0 A) (F0 m 52 ls [.int s0]) := by
    intro l1 s0 v H locs ls hP hD hS hl hf
    unfold f_Md_doOrder_52 at hf
    refine lv_istore_n (lv' := [(2, .int s0), (0, .ref (a 0)), (1, .int l1)]) hx hb d_Md_doOrder_52 rfl hl (by decide) rfl (fun ls hl => ?_)
    refine lv_iload_n hx hb d_Md_doOrder_53 rfl (lv_at hl 2 rfl) ?_
    by_cases e_54_98 : l1 = (98 : Int32)
    · replace hf := ob_et e_54_98 hf
      refine lv_tableIn (off := 106) (tgt := 160) hx hb d_Md_doOrder_54 (by rw [e_54_98]; decide) (by rw [e_54_98]; decide) (by rw [e_54_98]; decide) (by decide) ?_
      refine lv_aload_n hx hb d_Md_doOrder_160 rfl (lv_at hl 1 rfl) ?_
      refine va_get (D := G.1) (ci := 9) (v := .ref (a 1)) (C := R_Md) (T := T_Md) (N := 9) hx hb hts in_Md hown hK hP 0 rfl rfl 0 (by decide) (hts _ k_753) (fun _ h9 => h9) rfl d_Md_doOrder_161 ?_
      obtain ⟨q_164, hc_164, hf⟩ := oc_e hf
      refine kcS (cc := c_Md_doOrder) (own := "FloodDiaryModel") (index := 90) (wc := W_Row G 2400 (a 1) v.1) (wr := O_Md G a v ++ (W_Row G 2400 (a 2) v.2.1 ++ (W_Row G 14400 (a 3) v.2.2.1 ++ (W_Row G 4800 (a 4) v.2.2.2.2.1 ++ (W_RowZ G 2 (a 5) v.2.2.2.2.2.1 ++ (W_Row G 80 (a 6) v.2.2.2.2.2.2.1 ++ (([] : va_W)))))))) (wc' := W_Row G 2400 (a 1) v.1) (ws' := W_Md G a v) hx hb hml hown hts hK hN hA hP hD hS (t_Md_whyNotBegin l G (a 1) v.1 q_164 hc_164) m_Md_whyNotBegin k_786 ⟨Nat.le_of_ble_eq_true rfl, Nat.le_of_ble_eq_true rfl⟩ (pm_12 (O_Md G a v) (W_Row G 2400 (a 1) v.1) (W_Row G 2400 (a 2) v.2.1) (W_Row G 14400 (a 3) v.2.2.1) (W_Row G 4800 (a 4) v.2.2.2.2.1) (W_RowZ G 2 (a 5) v.2.2.2.2.2.1) (W_Row G 80 (a 6) v.2.2.2.2.2.2.1)) (pm_12 (O_Md G a v) (W_Row G 2400 (a 1) v.1) (W_Row G 2400 (a 2) v.2.1) (W_Row G 14400 (a 3) v.2.2.1) (W_Row G 4800 (a 4) v.2.2.2.2.1) (W_RowZ G 2 (a 5) v.2.2.2.2.2.1) (W_Row G 80 (a 6) v.2.2.2.2.2.2.1)).symm rfl rfl (Nat.le_of_ble_eq_true rfl) hl.1 d_Md_doOrder_164 ⟨Nat.zero_le _, Nat.zero_le _⟩ (fun H locs hP hD hS => ?_)
      refine lv_if_ne (tgt := 174) hx hb d_Md_doOrder_167 (by decide) (fun c_167 => ?_) (fun c_167 => ?_)
      · replace hf := ob_ef c_167 hf
        refine lv_iconst (v := (0 : Int32)) hx hb d_Md_doOrder_174 (by decide) ?_
        refine lv_istore_n (lv' := [(3, .int (0 : Int32)), (2, .int s0), (0, .ref (a 0)), (1, .int l1)]) hx hb d_Md_doOrder_175 rfl hl (by decide) rfl (fun ls hl => ?_)
        refine lv_iload_n hx hb d_Md_doOrder_176 rfl (lv_at hl 0 rfl) ?_
        refine lv_if_eq (tgt := 188) hx hb d_Md_doOrder_177 (by decide) (fun c_177 => ?_) (fun c_177 => ?_)
        · replace hf := ob_et c_177 hf
          refine lv_iload_n hx hb d_Md_doOrder_188 rfl (lv_at hl 0 rfl) ?_
          cases hf
          exact kZ hx hb hr hlk hP hD hS (Or.inl rfl) d_Md_doOrder_189
        · replace hf := ob_ef c_177 hf
          refine lv_aload_n hx hb d_Md_doOrder_180 rfl (lv_at hl 2 rfl) ?_
          refine va_get (D := G.1) (ci := 9) (v := .ref (a 1)) (C := R_Md) (T := T_Md) (N := 9) hx hb hts in_Md hown hK hP 0 rfl rfl 0 (by decide) (hts _ k_753) (fun _ h9 => h9) rfl d_Md_doOrder_181 ?_
          obtain ⟨q_184, hc_184, hf⟩ := oc_e hf
          refine kcS (cc := c_Md_doOrder) (own := "FloodDiaryModel") (index := 96) (wc := W_Row G 2400 (a 1) v.1) (wr := O_Md G a v ++ (W_Row G 2400 (a 2) v.2.1 ++ (W_Row G 14400 (a 3) v.2.2.1 ++ (W_Row G 4800 (a 4) v.2.2.2.2.1 ++ (W_RowZ G 2 (a 5) v.2.2.2.2.2.1 ++ (W_Row G 80 (a 6) v.2.2.2.2.2.2.1 ++ (([] : va_W)))))))) (wc' := W_Row G 2400 (a 1) q_184.2) (ws' := W_Md G a (q_184.2, v.2.1, v.2.2.1, v.2.2.2.1, v.2.2.2.2.1, v.2.2.2.2.2.1, v.2.2.2.2.2.2.1, v.2.2.2.2.2.2.2.1, v.2.2.2.2.2.2.2.2)) hx hb hml hown hts hK hN hA hP hD hS (t_Md_beginOn l G (a 1) v.1 q_184 hc_184) m_Md_beginOn k_796 ⟨Nat.le_of_ble_eq_true rfl, Nat.le_of_ble_eq_true rfl⟩ (pm_12 (O_Md G a v) (W_Row G 2400 (a 1) v.1) (W_Row G 2400 (a 2) v.2.1) (W_Row G 14400 (a 3) v.2.2.1) (W_Row G 4800 (a 4) v.2.2.2.2.1) (W_RowZ G 2 (a 5) v.2.2.2.2.2.1) (W_Row G 80 (a 6) v.2.2.2.2.2.2.1)) (pm_12 (O_Md G a (q_184.2, v.2.1, v.2.2.1, v.2.2.2.1, v.2.2.2.2.1, v.2.2.2.2.2.1, v.2.2.2.2.2.2.1, v.2.2.2.2.2.2.2.1, v.2.2.2.2.2.2.2.2)) (W_Row G 2400 (a 1) q_184.2) (W_Row G 2400 (a 2) v.2.1) (W_Row G 14400 (a 3) v.2.2.1) (W_Row G 4800 (a 4) v.2.2.2.2.1) (W_RowZ G 2 (a 5) v.2.2.2.2.2.1) (W_Row G 80 (a 6) v.2.2.2.2.2.2.1)).symm rfl rfl (Nat.le_of_ble_eq_true rfl) hl.1 d_Md_doOrder_184 ⟨Nat.zero_le _, Nat.zero_le _⟩ (fun H locs hP hD hS => ?_)
          refine lv_pop hx hb d_Md_doOrder_187 rfl ?_
          refine lv_iload_n hx hb d_Md_doOrder_188 rfl (lv_at hl 0 rfl) ?_
          cases hf
          exact kZ hx hb hr hlk hP hD hS (Or.inl rfl) d_Md_doOrder_189
      · replace hf := ob_et c_167 hf
        refine lv_iconst (v := (1 : Int32)) hx hb d_Md_doOrder_170 (by decide) ?_
        refine lv_goto (tgt := 175) hx hb d_Md_doOrder_171 (by decide) ?_
        refine lv_istore_n (lv' := [(3, .int (1 : Int32)), (2, .int s0), (0, .ref (a 0)), (1, .int l1)]) hx hb d_Md_doOrder_175 rfl hl (by decide) rfl (fun ls hl => ?_)
        refine lv_iload_n hx hb d_Md_doOrder_176 rfl (lv_at hl 0 rfl) ?_
        refine lv_if_eq (tgt := 188) hx hb d_Md_doOrder_177 (by decide) (fun c_177 => ?_) (fun c_177 => ?_)
        · replace hf := ob_et c_177 hf
          refine lv_iload_n hx hb d_Md_doOrder_188 rfl (lv_at hl 0 rfl) ?_
          cases hf
          exact kZ hx hb hr hlk hP hD hS (Or.inr rfl) d_Md_doOrder_189
        · replace hf := ob_ef c_177 hf
          refine lv_aload_n hx hb d_Md_doOrder_180 rfl (lv_at hl 2 rfl) ?_
          refine va_get (D := G.1) (ci := 9) (v := .ref (a 1)) (C := R_Md) (T := T_Md) (N := 9) hx hb hts in_Md hown hK hP 0 rfl rfl 0 (by decide) (hts _ k_753) (fun _ h9 => h9) rfl d_Md_doOrder_181 ?_
          obtain ⟨q_184, hc_184, hf⟩ := oc_e hf
          refine kcS (cc := c_Md_doOrder) (own := "FloodDiaryModel") (index := 96) (wc := W_Row G 2400 (a 1) v.1) (wr := O_Md G a v ++ (W_Row G 2400 (a 2) v.2.1 ++ (W_Row G 14400 (a 3) v.2.2.1 ++ (W_Row G 4800 (a 4) v.2.2.2.2.1 ++ (W_RowZ G 2 (a 5) v.2.2.2.2.2.1 ++ (W_Row G 80 (a 6) v.2.2.2.2.2.2.1 ++ (([] : va_W)))))))) (wc' := W_Row G 2400 (a 1) q_184.2) (ws' := W_Md G a (q_184.2, v.2.1, v.2.2.1, v.2.2.2.1, v.2.2.2.2.1, v.2.2.2.2.2.1, v.2.2.2.2.2.2.1, v.2.2.2.2.2.2.2.1, v.2.2.2.2.2.2.2.2)) hx hb hml hown hts hK hN hA hP hD hS (t_Md_beginOn l G (a 1) v.1 q_184 hc_184) m_Md_beginOn k_796 ⟨Nat.le_of_ble_eq_true rfl, Nat.le_of_ble_eq_true rfl⟩ (pm_12 (O_Md G a v) (W_Row G 2400 (a 1) v.1) (W_Row G 2400 (a 2) v.2.1) (W_Row G 14400 (a 3) v.2.2.1) (W_Row G 4800 (a 4) v.2.2.2.2.1) (W_RowZ G 2 (a 5) v.2.2.2.2.2.1) (W_Row G 80 (a 6) v.2.2.2.2.2.2.1)) (pm_12 (O_Md G a (q_184.2, v.2.1, v.2.2.1, v.2.2.2.1, v.2.2.2.2.1, v.2.2.2.2.2.1, v.2.2.2.2.2.2.1, v.2.2.2.2.2.2.2.1, v.2.2.2.2.2.2.2.2)) (W_Row G 2400 (a 1) q_184.2) (W_Row G 2400 (a 2) v.2.1) (W_Row G 14400 (a 3) v.2.2.1) (W_Row G 4800 (a 4) v.2.2.2.2.1) (W_RowZ G 2 (a 5) v.2.2.2.2.2.1) (W_Row G 80 (a 6) v.2.2.2.2.2.2.1)).symm rfl rfl (Nat.le_of_ble_eq_true rfl) hl.1 d_Md_doOrder_184 ⟨Nat.zero_le _, Nat.zero_le _⟩ (fun H locs hP hD hS => ?_)
          refine lv_pop hx hb d_Md_doOrder_187 rfl ?_
          refine lv_iload_n hx hb d_Md_doOrder_188 rfl (lv_at hl 0 rfl) ?_
          cases hf
          exact kZ hx hb hr hlk hP hD hS (Or.inr rfl) d_Md_doOrder_189
    · replace hf := ob_ef e_54_98 hf
      by_cases e_54_99 : l1 = (99 : Int32)
      · replace hf := ob_et e_54_99 hf
        refine lv_tableIn (off := 349) (tgt := 403) hx hb d_Md_doOrder_54 (by rw [e_54_99]; decide) (by rw [e_54_99]; decide) (by rw [e_54_99]; decide) (by decide) ?_
        exact J_403 s0 v _ _ ls hP hD hS (lv_sub hl [1, 0] rfl) hf
      · replace hf := ob_ef e_54_99 hf
        by_cases e_54_100 : l1 = (100 : Int32)
        · replace hf := ob_et e_54_100 hf
          refine lv_tableIn (off := 349) (tgt := 403) hx hb d_Md_doOrder_54 (by rw [e_54_100]; decide) (by rw [e_54_100]; decide) (by rw [e_54_100]; decide) (by decide) ?_
          exact J_403 s0 v _ _ ls hP hD hS (lv_sub hl [1, 0] rfl) hf
        · replace hf := ob_ef e_54_100 hf
          by_cases e_54_101 : l1 = (101 : Int32)
          · replace hf := ob_et e_54_101 hf
            refine lv_tableIn (off := 349) (tgt := 403) hx hb d_Md_doOrder_54 (by rw [e_54_101]; decide) (by rw [e_54_101]; decide) (by rw [e_54_101]; decide) (by decide) ?_
            exact J_403 s0 v _ _ ls hP hD hS (lv_sub hl [1, 0] rfl) hf
          · replace hf := ob_ef e_54_101 hf
            by_cases e_54_102 : l1 = (102 : Int32)
            · replace hf := ob_et e_54_102 hf
              refine lv_tableIn (off := 212) (tgt := 266) hx hb d_Md_doOrder_54 (by rw [e_54_102]; decide) (by rw [e_54_102]; decide) (by rw [e_54_102]; decide) (by decide) ?_
              refine lv_aload_n hx hb d_Md_doOrder_266 rfl (lv_at hl 1 rfl) ?_
              refine va_get (D := G.1) (ci := 9) (v := .ref (a 1)) (C := R_Md) (T := T_Md) (N := 9) hx hb hts in_Md hown hK hP 0 rfl rfl 0 (by decide) (hts _ k_753) (fun _ h9 => h9) rfl d_Md_doOrder_267 ?_
              refine lv_iload_n hx hb d_Md_doOrder_270 rfl (lv_at hl 0 rfl) ?_
              obtain ⟨q_271, hc_271, hf⟩ := oc_e hf
              refine kcS (cc := c_Md_doOrder) (own := "FloodDiaryModel") (index := 125) (wc := W_Row G 2400 (a 1) v.1) (wr := O_Md G a v ++ (W_Row G 2400 (a 2) v.2.1 ++ (W_Row G 14400 (a 3) v.2.2.1 ++ (W_Row G 4800 (a 4) v.2.2.2.2.1 ++ (W_RowZ G 2 (a 5) v.2.2.2.2.2.1 ++ (W_Row G 80 (a 6) v.2.2.2.2.2.2.1 ++ (([] : va_W)))))))) (wc' := W_Row G 2400 (a 1) v.1) (ws' := W_Md G a v) hx hb hml hown hts hK hN hA hP hD hS (t_Md_whyNotFinish l G (a 1) s0 v.1 q_271 hc_271) m_Md_whyNotFinish k_848 ⟨Nat.le_of_ble_eq_true rfl, Nat.le_of_ble_eq_true rfl⟩ (pm_12 (O_Md G a v) (W_Row G 2400 (a 1) v.1) (W_Row G 2400 (a 2) v.2.1) (W_Row G 14400 (a 3) v.2.2.1) (W_Row G 4800 (a 4) v.2.2.2.2.1) (W_RowZ G 2 (a 5) v.2.2.2.2.2.1) (W_Row G 80 (a 6) v.2.2.2.2.2.2.1)) (pm_12 (O_Md G a v) (W_Row G 2400 (a 1) v.1) (W_Row G 2400 (a 2) v.2.1) (W_Row G 14400 (a 3) v.2.2.1) (W_Row G 4800 (a 4) v.2.2.2.2.1) (W_RowZ G 2 (a 5) v.2.2.2.2.2.1) (W_Row G 80 (a 6) v.2.2.2.2.2.2.1)).symm rfl rfl (Nat.le_of_ble_eq_true rfl) hl.1 d_Md_doOrder_271 ⟨Nat.zero_le _, Nat.zero_le _⟩ (fun H locs hP hD hS => ?_)
              refine lv_if_ne (tgt := 281) hx hb d_Md_doOrder_274 (by decide) (fun c_274 => ?_) (fun c_274 => ?_)
              · replace hf := ob_ef c_274 hf
                refine lv_iconst (v := (0 : Int32)) hx hb d_Md_doOrder_281 (by decide) ?_
                refine lv_istore_n (lv' := [(3, .int (0 : Int32)), (2, .int s0), (0, .ref (a 0)), (1, .int l1)]) hx hb d_Md_doOrder_282 rfl hl (by decide) rfl (fun ls hl => ?_)
                refine lv_iload_n hx hb d_Md_doOrder_283 rfl (lv_at hl 0 rfl) ?_
                refine lv_if_eq (tgt := 296) hx hb d_Md_doOrder_284 (by decide) (fun c_284 => ?_) (fun c_284 => ?_)
                · replace hf := ob_et c_284 hf
                  refine lv_iload_n hx hb d_Md_doOrder_296 rfl (lv_at hl 0 rfl) ?_
                  cases hf
                  exact kZ hx hb hr hlk hP hD hS (Or.inl rfl) d_Md_doOrder_297
                · replace hf := ob_ef c_284 hf
                  refine lv_aload_n hx hb d_Md_doOrder_287 rfl (lv_at hl 2 rfl) ?_
                  refine va_get (D := G.1) (ci := 9) (v := .ref (a 1)) (C := R_Md) (T := T_Md) (N := 9) hx hb hts in_Md hown hK hP 0 rfl rfl 0 (by decide) (hts _ k_753) (fun _ h9 => h9) rfl d_Md_doOrder_288 ?_
                  refine lv_iload_n hx hb d_Md_doOrder_291 rfl (lv_at hl 1 rfl) ?_
                  obtain ⟨q_292, hc_292, hf⟩ := oc_e hf
                  refine kcS (cc := c_Md_doOrder) (own := "FloodDiaryModel") (index := 128) (wc := W_Row G 2400 (a 1) v.1) (wr := O_Md G a v ++ (W_Row G 2400 (a 2) v.2.1 ++ (W_Row G 14400 (a 3) v.2.2.1 ++ (W_Row G 4800 (a 4) v.2.2.2.2.1 ++ (W_RowZ G 2 (a 5) v.2.2.2.2.2.1 ++ (W_Row G 80 (a 6) v.2.2.2.2.2.2.1 ++ (([] : va_W)))))))) (wc' := W_Row G 2400 (a 1) q_292.2) (ws' := W_Md G a (q_292.2, v.2.1, v.2.2.1, v.2.2.2.1, v.2.2.2.2.1, v.2.2.2.2.2.1, v.2.2.2.2.2.2.1, v.2.2.2.2.2.2.2.1, v.2.2.2.2.2.2.2.2)) hx hb hml hown hts hK hN hA hP hD hS (t_Md_finishOn l G (a 1) s0 v.1 q_292 hc_292) m_Md_finishOn k_851 ⟨Nat.le_of_ble_eq_true rfl, Nat.le_of_ble_eq_true rfl⟩ (pm_12 (O_Md G a v) (W_Row G 2400 (a 1) v.1) (W_Row G 2400 (a 2) v.2.1) (W_Row G 14400 (a 3) v.2.2.1) (W_Row G 4800 (a 4) v.2.2.2.2.1) (W_RowZ G 2 (a 5) v.2.2.2.2.2.1) (W_Row G 80 (a 6) v.2.2.2.2.2.2.1)) (pm_12 (O_Md G a (q_292.2, v.2.1, v.2.2.1, v.2.2.2.1, v.2.2.2.2.1, v.2.2.2.2.2.1, v.2.2.2.2.2.2.1, v.2.2.2.2.2.2.2.1, v.2.2.2.2.2.2.2.2)) (W_Row G 2400 (a 1) q_292.2) (W_Row G 2400 (a 2) v.2.1) (W_Row G 14400 (a 3) v.2.2.1) (W_Row G 4800 (a 4) v.2.2.2.2.1) (W_RowZ G 2 (a 5) v.2.2.2.2.2.1) (W_Row G 80 (a 6) v.2.2.2.2.2.2.1)).symm rfl rfl (Nat.le_of_ble_eq_true rfl) hl.1 d_Md_doOrder_292 ⟨Nat.zero_le _, Nat.zero_le _⟩ (fun H locs hP hD hS => ?_)
                  refine lv_pop hx hb d_Md_doOrder_295 rfl ?_
                  refine lv_iload_n hx hb d_Md_doOrder_296 rfl (lv_at hl 0 rfl) ?_
                  cases hf
                  exact kZ hx hb hr hlk hP hD hS (Or.inl rfl) d_Md_doOrder_297
              · replace hf := ob_et c_274 hf
                refine lv_iconst (v := (1 : Int32)) hx hb d_Md_doOrder_277 (by decide) ?_
                refine lv_goto (tgt := 282) hx hb d_Md_doOrder_278 (by decide) ?_
                refine lv_istore_n (lv' := [(3, .int (1 : Int32)), (2, .int s0), (0, .ref (a 0)), (1, .int l1)]) hx hb d_Md_doOrder_282 rfl hl (by decide) rfl (fun ls hl => ?_)
                refine lv_iload_n hx hb d_Md_doOrder_283 rfl (lv_at hl 0 rfl) ?_
                refine lv_if_eq (tgt := 296) hx hb d_Md_doOrder_284 (by decide) (fun c_284 => ?_) (fun c_284 => ?_)
                · replace hf := ob_et c_284 hf
                  refine lv_iload_n hx hb d_Md_doOrder_296 rfl (lv_at hl 0 rfl) ?_
                  cases hf
                  exact kZ hx hb hr hlk hP hD hS (Or.inr rfl) d_Md_doOrder_297
                · replace hf := ob_ef c_284 hf
                  refine lv_aload_n hx hb d_Md_doOrder_287 rfl (lv_at hl 2 rfl) ?_
                  refine va_get (D := G.1) (ci := 9) (v := .ref (a 1)) (C := R_Md) (T := T_Md) (N := 9) hx hb hts in_Md hown hK hP 0 rfl rfl 0 (by decide) (hts _ k_753) (fun _ h9 => h9) rfl d_Md_doOrder_288 ?_
                  refine lv_iload_n hx hb d_Md_doOrder_291 rfl (lv_at hl 1 rfl) ?_
                  obtain ⟨q_292, hc_292, hf⟩ := oc_e hf
                  refine kcS (cc := c_Md_doOrder) (own := "FloodDiaryModel") (index := 128) (wc := W_Row G 2400 (a 1) v.1) (wr := O_Md G a v ++ (W_Row G 2400 (a 2) v.2.1 ++ (W_Row G 14400 (a 3) v.2.2.1 ++ (W_Row G 4800 (a 4) v.2.2.2.2.1 ++ (W_RowZ G 2 (a 5) v.2.2.2.2.2.1 ++ (W_Row G 80 (a 6) v.2.2.2.2.2.2.1 ++ (([] : va_W)))))))) (wc' := W_Row G 2400 (a 1) q_292.2) (ws' := W_Md G a (q_292.2, v.2.1, v.2.2.1, v.2.2.2.1, v.2.2.2.2.1, v.2.2.2.2.2.1, v.2.2.2.2.2.2.1, v.2.2.2.2.2.2.2.1, v.2.2.2.2.2.2.2.2)) hx hb hml hown hts hK hN hA hP hD hS (t_Md_finishOn l G (a 1) s0 v.1 q_292 hc_292) m_Md_finishOn k_851 ⟨Nat.le_of_ble_eq_true rfl, Nat.le_of_ble_eq_true rfl⟩ (pm_12 (O_Md G a v) (W_Row G 2400 (a 1) v.1) (W_Row G 2400 (a 2) v.2.1) (W_Row G 14400 (a 3) v.2.2.1) (W_Row G 4800 (a 4) v.2.2.2.2.1) (W_RowZ G 2 (a 5) v.2.2.2.2.2.1) (W_Row G 80 (a 6) v.2.2.2.2.2.2.1)) (pm_12 (O_Md G a (q_292.2, v.2.1, v.2.2.1, v.2.2.2.1, v.2.2.2.2.1, v.2.2.2.2.2.1, v.2.2.2.2.2.2.1, v.2.2.2.2.2.2.2.1, v.2.2.2.2.2.2.2.2)) (W_Row G 2400 (a 1) q_292.2) (W_Row G 2400 (a 2) v.2.1) (W_Row G 14400 (a 3) v.2.2.1) (W_Row G 4800 (a 4) v.2.2.2.2.1) (W_RowZ G 2 (a 5) v.2.2.2.2.2.1) (W_Row G 80 (a 6) v.2.2.2.2.2.2.1)).symm rfl rfl (Nat.le_of_ble_eq_true rfl) hl.1 d_Md_doOrder_292 ⟨Nat.zero_le _, Nat.zero_le _⟩ (fun H locs hP hD hS => ?_)
                  refine lv_pop hx hb d_Md_doOrder_295 rfl ?_
                  refine lv_iload_n hx hb d_Md_doOrder_296 rfl (lv_at hl 0 rfl) ?_
                  cases hf
                  exact kZ hx hb hr hlk hP hD hS (Or.inr rfl) d_Md_doOrder_297
            · replace hf := ob_ef e_54_102 hf
              by_cases e_54_103 : l1 = (103 : Int32)
              · replace hf := ob_et e_54_103 hf
                refine lv_tableIn (off := 349) (tgt := 403) hx hb d_Md_doOrder_54 (by rw [e_54_103]; decide) (by rw [e_54_103]; decide) (by rw [e_54_103]; decide) (by decide) ?_
                exact J_403 s0 v _ _ ls hP hD hS (lv_sub hl [1, 0] rfl) hf
              · replace hf := ob_ef e_54_103 hf
                by_cases e_54_104 : l1 = (104 : Int32)
                · replace hf := ob_et e_54_104 hf
                  refine lv_tableIn (off := 349) (tgt := 403) hx hb d_Md_doOrder_54 (by rw [e_54_104]; decide) (by rw [e_54_104]; decide) (by rw [e_54_104]; decide) (by decide) ?_
                  exact J_403 s0 v _ _ ls hP hD hS (lv_sub hl [1, 0] rfl) hf
                · replace hf := ob_ef e_54_104 hf
                  by_cases e_54_105 : l1 = (105 : Int32)
                  · replace hf := ob_et e_54_105 hf
                    refine lv_tableIn (off := 349) (tgt := 403) hx hb d_Md_doOrder_54 (by rw [e_54_105]; decide) (by rw [e_54_105]; decide) (by rw [e_54_105]; decide) (by decide) ?_
                    exact J_403 s0 v _ _ ls hP hD hS (lv_sub hl [1, 0] rfl) hf
                  · replace hf := ob_ef e_54_105 hf
                    by_cases e_54_106 : l1 = (106 : Int32)
                    · replace hf := ob_et e_54_106 hf
                      refine lv_tableIn (off := 349) (tgt := 403) hx hb d_Md_doOrder_54 (by rw [e_54_106]; decide) (by rw [e_54_106]; decide) (by rw [e_54_106]; decide) (by decide) ?_
                      exact J_403 s0 v _ _ ls hP hD hS (lv_sub hl [1, 0] rfl) hf
                    · replace hf := ob_ef e_54_106 hf
                      by_cases e_54_107 : l1 = (107 : Int32)
                      · replace hf := ob_et e_54_107 hf
                        refine lv_tableIn (off := 349) (tgt := 403) hx hb d_Md_doOrder_54 (by rw [e_54_107]; decide) (by rw [e_54_107]; decide) (by rw [e_54_107]; decide) (by decide) ?_
                        exact J_403 s0 v _ _ ls hP hD hS (lv_sub hl [1, 0] rfl) hf
                      · replace hf := ob_ef e_54_107 hf
                        by_cases e_54_108 : l1 = (108 : Int32)
                        · replace hf := ob_et e_54_108 hf
                          refine lv_tableIn (off := 349) (tgt := 403) hx hb d_Md_doOrder_54 (by rw [e_54_108]; decide) (by rw [e_54_108]; decide) (by rw [e_54_108]; decide) (by decide) ?_
                          exact J_403 s0 v _ _ ls hP hD hS (lv_sub hl [1, 0] rfl) hf
                        · replace hf := ob_ef e_54_108 hf
                          by_cases e_54_109 : l1 = (109 : Int32)
                          · replace hf := ob_et e_54_109 hf
                            refine lv_tableIn (off := 349) (tgt := 403) hx hb d_Md_doOrder_54 (by rw [e_54_109]; decide) (by rw [e_54_109]; decide) (by rw [e_54_109]; decide) (by decide) ?_
                            exact J_403 s0 v _ _ ls hP hD hS (lv_sub hl [1, 0] rfl) hf
                          · replace hf := ob_ef e_54_109 hf
                            by_cases e_54_110 : l1 = (110 : Int32)
                            · replace hf := ob_et e_54_110 hf
                              refine lv_tableIn (off := 349) (tgt := 403) hx hb d_Md_doOrder_54 (by rw [e_54_110]; decide) (by rw [e_54_110]; decide) (by rw [e_54_110]; decide) (by decide) ?_
                              exact J_403 s0 v _ _ ls hP hD hS (lv_sub hl [1, 0] rfl) hf
                            · replace hf := ob_ef e_54_110 hf
                              by_cases e_54_111 : l1 = (111 : Int32)
                              · replace hf := ob_et e_54_111 hf
                                refine lv_tableIn (off := 349) (tgt := 403) hx hb d_Md_doOrder_54 (by rw [e_54_111]; decide) (by rw [e_54_111]; decide) (by rw [e_54_111]; decide) (by decide) ?_
                                exact J_403 s0 v _ _ ls hP hD hS (lv_sub hl [1, 0] rfl) hf
                              · replace hf := ob_ef e_54_111 hf
                                by_cases e_54_112 : l1 = (112 : Int32)
                                · replace hf := ob_et e_54_112 hf
                                  refine lv_tableIn (off := 276) (tgt := 330) hx hb d_Md_doOrder_54 (by rw [e_54_112]; decide) (by rw [e_54_112]; decide) (by rw [e_54_112]; decide) (by decide) ?_
                                  refine lv_aload_n hx hb d_Md_doOrder_330 rfl (lv_at hl 1 rfl) ?_
                                  refine va_get (D := G.1) (ci := 9) (v := .ref (a 1)) (C := R_Md) (T := T_Md) (N := 9) hx hb hts in_Md hown hK hP 0 rfl rfl 0 (by decide) (hts _ k_753) (fun _ h9 => h9) rfl d_Md_doOrder_331 ?_
                                  refine lv_iload_n hx hb d_Md_doOrder_334 rfl (lv_at hl 0 rfl) ?_
                                  obtain ⟨q_335, hc_335, hf⟩ := oc_e hf
                                  refine kcS (cc := c_Md_doOrder) (own := "FloodDiaryModel") (index := 143) (wc := W_Row G 2400 (a 1) v.1) (wr := O_Md G a v ++ (W_Row G 2400 (a 2) v.2.1 ++ (W_Row G 14400 (a 3) v.2.2.1 ++ (W_Row G 4800 (a 4) v.2.2.2.2.1 ++ (W_RowZ G 2 (a 5) v.2.2.2.2.2.1 ++ (W_Row G 80 (a 6) v.2.2.2.2.2.2.1 ++ (([] : va_W)))))))) (wc' := W_Row G 2400 (a 1) v.1) (ws' := W_Md G a v) hx hb hml hown hts hK hN hA hP hD hS (t_Md_whyNotPutAway l G (a 1) s0 v.1 q_335 hc_335) m_Md_whyNotPutAway k_887 ⟨Nat.le_of_ble_eq_true rfl, Nat.le_of_ble_eq_true rfl⟩ (pm_12 (O_Md G a v) (W_Row G 2400 (a 1) v.1) (W_Row G 2400 (a 2) v.2.1) (W_Row G 14400 (a 3) v.2.2.1) (W_Row G 4800 (a 4) v.2.2.2.2.1) (W_RowZ G 2 (a 5) v.2.2.2.2.2.1) (W_Row G 80 (a 6) v.2.2.2.2.2.2.1)) (pm_12 (O_Md G a v) (W_Row G 2400 (a 1) v.1) (W_Row G 2400 (a 2) v.2.1) (W_Row G 14400 (a 3) v.2.2.1) (W_Row G 4800 (a 4) v.2.2.2.2.1) (W_RowZ G 2 (a 5) v.2.2.2.2.2.1) (W_Row G 80 (a 6) v.2.2.2.2.2.2.1)).symm rfl rfl (Nat.le_of_ble_eq_true rfl) hl.1 d_Md_doOrder_335 ⟨Nat.zero_le _, Nat.zero_le _⟩ (fun H locs hP hD hS => ?_)
                                  refine lv_if_ne (tgt := 345) hx hb d_Md_doOrder_338 (by decide) (fun c_338 => ?_) (fun c_338 => ?_)
                                  · replace hf := ob_ef c_338 hf
                                    refine lv_iconst (v := (0 : Int32)) hx hb d_Md_doOrder_345 (by decide) ?_
                                    refine lv_istore_n (lv' := [(3, .int (0 : Int32)), (2, .int s0), (0, .ref (a 0)), (1, .int l1)]) hx hb d_Md_doOrder_346 rfl hl (by decide) rfl (fun ls hl => ?_)
                                    refine lv_iload_n hx hb d_Md_doOrder_347 rfl (lv_at hl 0 rfl) ?_
                                    refine lv_if_eq (tgt := 360) hx hb d_Md_doOrder_348 (by decide) (fun c_348 => ?_) (fun c_348 => ?_)
                                    · replace hf := ob_et c_348 hf
                                      refine lv_iload_n hx hb d_Md_doOrder_360 rfl (lv_at hl 0 rfl) ?_
                                      cases hf
                                      exact kZ hx hb hr hlk hP hD hS (Or.inl rfl) d_Md_doOrder_361
                                    · replace hf := ob_ef c_348 hf
                                      refine lv_aload_n hx hb d_Md_doOrder_351 rfl (lv_at hl 2 rfl) ?_
                                      refine va_get (D := G.1) (ci := 9) (v := .ref (a 1)) (C := R_Md) (T := T_Md) (N := 9) hx hb hts in_Md hown hK hP 0 rfl rfl 0 (by decide) (hts _ k_753) (fun _ h9 => h9) rfl d_Md_doOrder_352 ?_
                                      refine lv_iload_n hx hb d_Md_doOrder_355 rfl (lv_at hl 1 rfl) ?_
                                      obtain ⟨q_356, hc_356, hf⟩ := oc_e hf
                                      refine kcS (cc := c_Md_doOrder) (own := "FloodDiaryModel") (index := 146) (wc := W_Row G 2400 (a 1) v.1) (wr := O_Md G a v ++ (W_Row G 2400 (a 2) v.2.1 ++ (W_Row G 14400 (a 3) v.2.2.1 ++ (W_Row G 4800 (a 4) v.2.2.2.2.1 ++ (W_RowZ G 2 (a 5) v.2.2.2.2.2.1 ++ (W_Row G 80 (a 6) v.2.2.2.2.2.2.1 ++ (([] : va_W)))))))) (wc' := W_Row G 2400 (a 1) q_356.2) (ws' := W_Md G a (q_356.2, v.2.1, v.2.2.1, v.2.2.2.1, v.2.2.2.2.1, v.2.2.2.2.2.1, v.2.2.2.2.2.2.1, v.2.2.2.2.2.2.2.1, v.2.2.2.2.2.2.2.2)) hx hb hml hown hts hK hN hA hP hD hS (t_Md_putAwayOn l G (a 1) s0 v.1 q_356 hc_356) m_Md_putAwayOn k_890 ⟨Nat.le_of_ble_eq_true rfl, Nat.le_of_ble_eq_true rfl⟩ (pm_12 (O_Md G a v) (W_Row G 2400 (a 1) v.1) (W_Row G 2400 (a 2) v.2.1) (W_Row G 14400 (a 3) v.2.2.1) (W_Row G 4800 (a 4) v.2.2.2.2.1) (W_RowZ G 2 (a 5) v.2.2.2.2.2.1) (W_Row G 80 (a 6) v.2.2.2.2.2.2.1)) (pm_12 (O_Md G a (q_356.2, v.2.1, v.2.2.1, v.2.2.2.1, v.2.2.2.2.1, v.2.2.2.2.2.1, v.2.2.2.2.2.2.1, v.2.2.2.2.2.2.2.1, v.2.2.2.2.2.2.2.2)) (W_Row G 2400 (a 1) q_356.2) (W_Row G 2400 (a 2) v.2.1) (W_Row G 14400 (a 3) v.2.2.1) (W_Row G 4800 (a 4) v.2.2.2.2.1) (W_RowZ G 2 (a 5) v.2.2.2.2.2.1) (W_Row G 80 (a 6) v.2.2.2.2.2.2.1)).symm rfl rfl (Nat.le_of_ble_eq_true rfl) hl.1 d_Md_doOrder_356 ⟨Nat.zero_le _, Nat.zero_le _⟩ (fun H locs hP hD hS => ?_)
                                      refine lv_pop hx hb d_Md_doOrder_359 rfl ?_
                                      refine lv_iload_n hx hb d_Md_doOrder_360 rfl (lv_at hl 0 rfl) ?_
                                      cases hf
                                      exact kZ hx hb hr hlk hP hD hS (Or.inl rfl) d_Md_doOrder_361
                                  · replace hf := ob_et c_338 hf
                                    refine lv_iconst (v := (1 : Int32)) hx hb d_Md_doOrder_341 (by decide) ?_
                                    refine lv_goto (tgt := 346) hx hb d_Md_doOrder_342 (by decide) ?_
                                    refine lv_istore_n (lv' := [(3, .int (1 : Int32)), (2, .int s0), (0, .ref (a 0)), (1, .int l1)]) hx hb d_Md_doOrder_346 rfl hl (by decide) rfl (fun ls hl => ?_)
                                    refine lv_iload_n hx hb d_Md_doOrder_347 rfl (lv_at hl 0 rfl) ?_
                                    refine lv_if_eq (tgt := 360) hx hb d_Md_doOrder_348 (by decide) (fun c_348 => ?_) (fun c_348 => ?_)
                                    · replace hf := ob_et c_348 hf
                                      refine lv_iload_n hx hb d_Md_doOrder_360 rfl (lv_at hl 0 rfl) ?_
                                      cases hf
                                      exact kZ hx hb hr hlk hP hD hS (Or.inr rfl) d_Md_doOrder_361
                                    · replace hf := ob_ef c_348 hf
                                      refine lv_aload_n hx hb d_Md_doOrder_351 rfl (lv_at hl 2 rfl) ?_
                                      refine va_get (D := G.1) (ci := 9) (v := .ref (a 1)) (C := R_Md) (T := T_Md) (N := 9) hx hb hts in_Md hown hK hP 0 rfl rfl 0 (by decide) (hts _ k_753) (fun _ h9 => h9) rfl d_Md_doOrder_352 ?_
                                      refine lv_iload_n hx hb d_Md_doOrder_355 rfl (lv_at hl 1 rfl) ?_
                                      obtain ⟨q_356, hc_356, hf⟩ := oc_e hf
                                      refine kcS (cc := c_Md_doOrder) (own := "FloodDiaryModel") (index := 146) (wc := W_Row G 2400 (a 1) v.1) (wr := O_Md G a v ++ (W_Row G 2400 (a 2) v.2.1 ++ (W_Row G 14400 (a 3) v.2.2.1 ++ (W_Row G 4800 (a 4) v.2.2.2.2.1 ++ (W_RowZ G 2 (a 5) v.2.2.2.2.2.1 ++ (W_Row G 80 (a 6) v.2.2.2.2.2.2.1 ++ (([] : va_W)))))))) (wc' := W_Row G 2400 (a 1) q_356.2) (ws' := W_Md G a (q_356.2, v.2.1, v.2.2.1, v.2.2.2.1, v.2.2.2.2.1, v.2.2.2.2.2.1, v.2.2.2.2.2.2.1, v.2.2.2.2.2.2.2.1, v.2.2.2.2.2.2.2.2)) hx hb hml hown hts hK hN hA hP hD hS (t_Md_putAwayOn l G (a 1) s0 v.1 q_356 hc_356) m_Md_putAwayOn k_890 ⟨Nat.le_of_ble_eq_true rfl, Nat.le_of_ble_eq_true rfl⟩ (pm_12 (O_Md G a v) (W_Row G 2400 (a 1) v.1) (W_Row G 2400 (a 2) v.2.1) (W_Row G 14400 (a 3) v.2.2.1) (W_Row G 4800 (a 4) v.2.2.2.2.1) (W_RowZ G 2 (a 5) v.2.2.2.2.2.1) (W_Row G 80 (a 6) v.2.2.2.2.2.2.1)) (pm_12 (O_Md G a (q_356.2, v.2.1, v.2.2.1, v.2.2.2.1, v.2.2.2.2.1, v.2.2.2.2.2.1, v.2.2.2.2.2.2.1, v.2.2.2.2.2.2.2.1, v.2.2.2.2.2.2.2.2)) (W_Row G 2400 (a 1) q_356.2) (W_Row G 2400 (a 2) v.2.1) (W_Row G 14400 (a 3) v.2.2.1) (W_Row G 4800 (a 4) v.2.2.2.2.1) (W_RowZ G 2 (a 5) v.2.2.2.2.2.1) (W_Row G 80 (a 6) v.2.2.2.2.2.2.1)).symm rfl rfl (Nat.le_of_ble_eq_true rfl) hl.1 d_Md_doOrder_356 ⟨Nat.zero_le _, Nat.zero_le _⟩ (fun H locs hP hD hS => ?_)
                                      refine lv_pop hx hb d_Md_doOrder_359 rfl ?_
                                      refine lv_iload_n hx hb d_Md_doOrder_360 rfl (lv_at hl 0 rfl) ?_
                                      cases hf
                                      exact kZ hx hb hr hlk hP hD hS (Or.inr rfl) d_Md_doOrder_361
                                · replace hf := ob_ef e_54_112 hf
                                  by_cases e_54_113 : l1 = (113 : Int32)
                                  · replace hf := ob_et e_54_113 hf
                                    refine lv_tableIn (off := 349) (tgt := 403) hx hb d_Md_doOrder_54 (by rw [e_54_113]; decide) (by rw [e_54_113]; decide) (by rw [e_54_113]; decide) (by decide) ?_
                                    exact J_403 s0 v _ _ ls hP hD hS (lv_sub hl [1, 0] rfl) hf
                                  · replace hf := ob_ef e_54_113 hf
                                    by_cases e_54_114 : l1 = (114 : Int32)
                                    · replace hf := ob_et e_54_114 hf
                                      refine lv_tableIn (off := 349) (tgt := 403) hx hb d_Md_doOrder_54 (by rw [e_54_114]; decide) (by rw [e_54_114]; decide) (by rw [e_54_114]; decide) (by decide) ?_
                                      exact J_403 s0 v _ _ ls hP hD hS (lv_sub hl [1, 0] rfl) hf
                                    · replace hf := ob_ef e_54_114 hf
                                      by_cases e_54_115 : l1 = (115 : Int32)
                                      · replace hf := ob_et e_54_115 hf
                                        refine lv_tableIn (off := 308) (tgt := 362) hx hb d_Md_doOrder_54 (by rw [e_54_115]; decide) (by rw [e_54_115]; decide) (by rw [e_54_115]; decide) (by decide) ?_
                                        refine lv_aload_n hx hb d_Md_doOrder_362 rfl (lv_at hl 1 rfl) ?_
                                        refine va_get (D := G.1) (ci := 9) (v := .ref (a 1)) (C := R_Md) (T := T_Md) (N := 9) hx hb hts in_Md hown hK hP 0 rfl rfl 0 (by decide) (hts _ k_753) (fun _ h9 => h9) rfl d_Md_doOrder_363 ?_
                                        refine lv_iload_n hx hb d_Md_doOrder_366 rfl (lv_at hl 0 rfl) ?_
                                        obtain ⟨q_367, hc_367, hf⟩ := oc_e hf
                                        refine kcS (cc := c_Md_doOrder) (own := "FloodDiaryModel") (index := 140) (wc := W_Row G 2400 (a 1) v.1) (wr := O_Md G a v ++ (W_Row G 2400 (a 2) v.2.1 ++ (W_Row G 14400 (a 3) v.2.2.1 ++ (W_Row G 4800 (a 4) v.2.2.2.2.1 ++ (W_RowZ G 2 (a 5) v.2.2.2.2.2.1 ++ (W_Row G 80 (a 6) v.2.2.2.2.2.2.1 ++ (([] : va_W)))))))) (wc' := W_Row G 2400 (a 1) v.1) (ws' := W_Md G a v) hx hb hml hown hts hK hN hA hP hD hS (t_Md_whyNotSave l G (a 1) s0 v.1 q_367 hc_367) m_Md_whyNotSave k_880 ⟨Nat.le_of_ble_eq_true rfl, Nat.le_of_ble_eq_true rfl⟩ (pm_12 (O_Md G a v) (W_Row G 2400 (a 1) v.1) (W_Row G 2400 (a 2) v.2.1) (W_Row G 14400 (a 3) v.2.2.1) (W_Row G 4800 (a 4) v.2.2.2.2.1) (W_RowZ G 2 (a 5) v.2.2.2.2.2.1) (W_Row G 80 (a 6) v.2.2.2.2.2.2.1)) (pm_12 (O_Md G a v) (W_Row G 2400 (a 1) v.1) (W_Row G 2400 (a 2) v.2.1) (W_Row G 14400 (a 3) v.2.2.1) (W_Row G 4800 (a 4) v.2.2.2.2.1) (W_RowZ G 2 (a 5) v.2.2.2.2.2.1) (W_Row G 80 (a 6) v.2.2.2.2.2.2.1)).symm rfl rfl (Nat.le_of_ble_eq_true rfl) hl.1 d_Md_doOrder_367 ⟨Nat.zero_le _, Nat.zero_le _⟩ (fun H locs hP hD hS => ?_)
                                        refine lv_if_ne (tgt := 377) hx hb d_Md_doOrder_370 (by decide) (fun c_370 => ?_) (fun c_370 => ?_)
                                        · replace hf := ob_ef c_370 hf
                                          refine lv_iconst (v := (0 : Int32)) hx hb d_Md_doOrder_377 (by decide) ?_
                                          refine lv_istore_n (lv' := [(3, .int (0 : Int32)), (2, .int s0), (0, .ref (a 0)), (1, .int l1)]) hx hb d_Md_doOrder_378 rfl hl (by decide) rfl (fun ls hl => ?_)
                                          refine lv_iload_n hx hb d_Md_doOrder_379 rfl (lv_at hl 0 rfl) ?_
                                          refine lv_if_eq (tgt := 391) hx hb d_Md_doOrder_380 (by decide) (fun c_380 => ?_) (fun c_380 => ?_)
                                          · replace hf := ob_et c_380 hf
                                            refine lv_iload_n hx hb d_Md_doOrder_391 rfl (lv_at hl 0 rfl) ?_
                                            cases hf
                                            exact kZ hx hb hr hlk hP hD hS (Or.inl rfl) d_Md_doOrder_392
                                          · replace hf := ob_ef c_380 hf
                                            refine lv_aload_n hx hb d_Md_doOrder_383 rfl (lv_at hl 2 rfl) ?_
                                            refine va_get (D := G.1) (ci := 9) (v := .ref (a 1)) (C := R_Md) (T := T_Md) (N := 9) hx hb hts in_Md hown hK hP 0 rfl rfl 0 (by decide) (hts _ k_753) (fun _ h9 => h9) rfl d_Md_doOrder_384 ?_
                                            refine lv_iload_n hx hb d_Md_doOrder_387 rfl (lv_at hl 1 rfl) ?_
                                            obtain ⟨q_388, hc_388, hf⟩ := oc_e hf
                                            refine kcSv (cc := c_Md_doOrder) (own := "FloodDiaryModel") (index := 122) (wc := W_Row G 2400 (a 1) v.1) (wr := O_Md G a v ++ (W_Row G 2400 (a 2) v.2.1 ++ (W_Row G 14400 (a 3) v.2.2.1 ++ (W_Row G 4800 (a 4) v.2.2.2.2.1 ++ (W_RowZ G 2 (a 5) v.2.2.2.2.2.1 ++ (W_Row G 80 (a 6) v.2.2.2.2.2.2.1 ++ (([] : va_W)))))))) (wc' := W_Row G 2400 (a 1) q_388) (ws' := W_Md G a (q_388, v.2.1, v.2.2.1, v.2.2.2.1, v.2.2.2.2.1, v.2.2.2.2.2.1, v.2.2.2.2.2.2.1, v.2.2.2.2.2.2.2.1, v.2.2.2.2.2.2.2.2)) hx hb hml hown hts hK hN hA hP hD hS (t_Md_saveTo l G (a 1) s0 v.1 q_388 hc_388) m_Md_saveTo k_854 ⟨Nat.le_of_ble_eq_true rfl, Nat.le_of_ble_eq_true rfl⟩ (pm_12 (O_Md G a v) (W_Row G 2400 (a 1) v.1) (W_Row G 2400 (a 2) v.2.1) (W_Row G 14400 (a 3) v.2.2.1) (W_Row G 4800 (a 4) v.2.2.2.2.1) (W_RowZ G 2 (a 5) v.2.2.2.2.2.1) (W_Row G 80 (a 6) v.2.2.2.2.2.2.1)) (pm_12 (O_Md G a (q_388, v.2.1, v.2.2.1, v.2.2.2.1, v.2.2.2.2.1, v.2.2.2.2.2.1, v.2.2.2.2.2.2.1, v.2.2.2.2.2.2.2.1, v.2.2.2.2.2.2.2.2)) (W_Row G 2400 (a 1) q_388) (W_Row G 2400 (a 2) v.2.1) (W_Row G 14400 (a 3) v.2.2.1) (W_Row G 4800 (a 4) v.2.2.2.2.1) (W_RowZ G 2 (a 5) v.2.2.2.2.2.1) (W_Row G 80 (a 6) v.2.2.2.2.2.2.1)).symm rfl rfl (Nat.le_of_ble_eq_true rfl) hl.1 d_Md_doOrder_388 ⟨Nat.zero_le _, Nat.zero_le _⟩ (fun H locs hP hD hS => ?_)
                                            refine lv_iload_n hx hb d_Md_doOrder_391 rfl (lv_at hl 0 rfl) ?_
                                            cases hf
                                            exact kZ hx hb hr hlk hP hD hS (Or.inl rfl) d_Md_doOrder_392
                                        · replace hf := ob_et c_370 hf
                                          refine lv_iconst (v := (1 : Int32)) hx hb d_Md_doOrder_373 (by decide) ?_
                                          refine lv_goto (tgt := 378) hx hb d_Md_doOrder_374 (by decide) ?_
                                          refine lv_istore_n (lv' := [(3, .int (1 : Int32)), (2, .int s0), (0, .ref (a 0)), (1, .int l1)]) hx hb d_Md_doOrder_378 rfl hl (by decide) rfl (fun ls hl => ?_)
                                          refine lv_iload_n hx hb d_Md_doOrder_379 rfl (lv_at hl 0 rfl) ?_
                                          refine lv_if_eq (tgt := 391) hx hb d_Md_doOrder_380 (by decide) (fun c_380 => ?_) (fun c_380 => ?_)
                                          · replace hf := ob_et c_380 hf
                                            refine lv_iload_n hx hb d_Md_doOrder_391 rfl (lv_at hl 0 rfl) ?_
                                            cases hf
                                            exact kZ hx hb hr hlk hP hD hS (Or.inr rfl) d_Md_doOrder_392
                                          · replace hf := ob_ef c_380 hf
                                            refine lv_aload_n hx hb d_Md_doOrder_383 rfl (lv_at hl 2 rfl) ?_
                                            refine va_get (D := G.1) (ci := 9) (v := .ref (a 1)) (C := R_Md) (T := T_Md) (N := 9) hx hb hts in_Md hown hK hP 0 rfl rfl 0 (by decide) (hts _ k_753) (fun _ h9 => h9) rfl d_Md_doOrder_384 ?_
                                            refine lv_iload_n hx hb d_Md_doOrder_387 rfl (lv_at hl 1 rfl) ?_
                                            obtain ⟨q_388, hc_388, hf⟩ := oc_e hf
                                            refine kcSv (cc := c_Md_doOrder) (own := "FloodDiaryModel") (index := 122) (wc := W_Row G 2400 (a 1) v.1) (wr := O_Md G a v ++ (W_Row G 2400 (a 2) v.2.1 ++ (W_Row G 14400 (a 3) v.2.2.1 ++ (W_Row G 4800 (a 4) v.2.2.2.2.1 ++ (W_RowZ G 2 (a 5) v.2.2.2.2.2.1 ++ (W_Row G 80 (a 6) v.2.2.2.2.2.2.1 ++ (([] : va_W)))))))) (wc' := W_Row G 2400 (a 1) q_388) (ws' := W_Md G a (q_388, v.2.1, v.2.2.1, v.2.2.2.1, v.2.2.2.2.1, v.2.2.2.2.2.1, v.2.2.2.2.2.2.1, v.2.2.2.2.2.2.2.1, v.2.2.2.2.2.2.2.2)) hx hb hml hown hts hK hN hA hP hD hS (t_Md_saveTo l G (a 1) s0 v.1 q_388 hc_388) m_Md_saveTo k_854 ⟨Nat.le_of_ble_eq_true rfl, Nat.le_of_ble_eq_true rfl⟩ (pm_12 (O_Md G a v) (W_Row G 2400 (a 1) v.1) (W_Row G 2400 (a 2) v.2.1) (W_Row G 14400 (a 3) v.2.2.1) (W_Row G 4800 (a 4) v.2.2.2.2.1) (W_RowZ G 2 (a 5) v.2.2.2.2.2.1) (W_Row G 80 (a 6) v.2.2.2.2.2.2.1)) (pm_12 (O_Md G a (q_388, v.2.1, v.2.2.1, v.2.2.2.1, v.2.2.2.2.1, v.2.2.2.2.2.1, v.2.2.2.2.2.2.1, v.2.2.2.2.2.2.2.1, v.2.2.2.2.2.2.2.2)) (W_Row G 2400 (a 1) q_388) (W_Row G 2400 (a 2) v.2.1) (W_Row G 14400 (a 3) v.2.2.1) (W_Row G 4800 (a 4) v.2.2.2.2.1) (W_RowZ G 2 (a 5) v.2.2.2.2.2.1) (W_Row G 80 (a 6) v.2.2.2.2.2.2.1)).symm rfl rfl (Nat.le_of_ble_eq_true rfl) hl.1 d_Md_doOrder_388 ⟨Nat.zero_le _, Nat.zero_le _⟩ (fun H locs hP hD hS => ?_)
                                            refine lv_iload_n hx hb d_Md_doOrder_391 rfl (lv_at hl 0 rfl) ?_
                                            cases hf
                                            exact kZ hx hb hr hlk hP hD hS (Or.inr rfl) d_Md_doOrder_392
                                      · replace hf := ob_ef e_54_115 hf
                                        by_cases e_54_116 : l1 = (116 : Int32)
                                        · replace hf := ob_et e_54_116 hf
                                          refine lv_tableIn (off := 244) (tgt := 298) hx hb d_Md_doOrder_54 (by rw [e_54_116]; decide) (by rw [e_54_116]; decide) (by rw [e_54_116]; decide) (by decide) ?_
                                          refine lv_aload_n hx hb d_Md_doOrder_298 rfl (lv_at hl 1 rfl) ?_
                                          refine va_get (D := G.1) (ci := 9) (v := .ref (a 1)) (C := R_Md) (T := T_Md) (N := 9) hx hb hts in_Md hown hK hP 0 rfl rfl 0 (by decide) (hts _ k_753) (fun _ h9 => h9) rfl d_Md_doOrder_299 ?_
                                          refine lv_iload_n hx hb d_Md_doOrder_302 rfl (lv_at hl 0 rfl) ?_
                                          obtain ⟨q_303, hc_303, hf⟩ := oc_e hf
                                          refine kcS (cc := c_Md_doOrder) (own := "FloodDiaryModel") (index := 134) (wc := W_Row G 2400 (a 1) v.1) (wr := O_Md G a v ++ (W_Row G 2400 (a 2) v.2.1 ++ (W_Row G 14400 (a 3) v.2.2.1 ++ (W_Row G 4800 (a 4) v.2.2.2.2.1 ++ (W_RowZ G 2 (a 5) v.2.2.2.2.2.1 ++ (W_Row G 80 (a 6) v.2.2.2.2.2.2.1 ++ (([] : va_W)))))))) (wc' := W_Row G 2400 (a 1) v.1) (ws' := W_Md G a v) hx hb hml hown hts hK hN hA hP hD hS (t_Md_whyNotTear l G (a 1) s0 v.1 q_303 hc_303) m_Md_whyNotTear k_861 ⟨Nat.le_of_ble_eq_true rfl, Nat.le_of_ble_eq_true rfl⟩ (pm_12 (O_Md G a v) (W_Row G 2400 (a 1) v.1) (W_Row G 2400 (a 2) v.2.1) (W_Row G 14400 (a 3) v.2.2.1) (W_Row G 4800 (a 4) v.2.2.2.2.1) (W_RowZ G 2 (a 5) v.2.2.2.2.2.1) (W_Row G 80 (a 6) v.2.2.2.2.2.2.1)) (pm_12 (O_Md G a v) (W_Row G 2400 (a 1) v.1) (W_Row G 2400 (a 2) v.2.1) (W_Row G 14400 (a 3) v.2.2.1) (W_Row G 4800 (a 4) v.2.2.2.2.1) (W_RowZ G 2 (a 5) v.2.2.2.2.2.1) (W_Row G 80 (a 6) v.2.2.2.2.2.2.1)).symm rfl rfl (Nat.le_of_ble_eq_true rfl) hl.1 d_Md_doOrder_303 ⟨Nat.zero_le _, Nat.zero_le _⟩ (fun H locs hP hD hS => ?_)
                                          refine lv_if_ne (tgt := 313) hx hb d_Md_doOrder_306 (by decide) (fun c_306 => ?_) (fun c_306 => ?_)
                                          · replace hf := ob_ef c_306 hf
                                            refine lv_iconst (v := (0 : Int32)) hx hb d_Md_doOrder_313 (by decide) ?_
                                            refine lv_istore_n (lv' := [(3, .int (0 : Int32)), (2, .int s0), (0, .ref (a 0)), (1, .int l1)]) hx hb d_Md_doOrder_314 rfl hl (by decide) rfl (fun ls hl => ?_)
                                            refine lv_iload_n hx hb d_Md_doOrder_315 rfl (lv_at hl 0 rfl) ?_
                                            refine lv_if_eq (tgt := 328) hx hb d_Md_doOrder_316 (by decide) (fun c_316 => ?_) (fun c_316 => ?_)
                                            · replace hf := ob_et c_316 hf
                                              refine lv_iload_n hx hb d_Md_doOrder_328 rfl (lv_at hl 0 rfl) ?_
                                              cases hf
                                              exact kZ hx hb hr hlk hP hD hS (Or.inl rfl) d_Md_doOrder_329
                                            · replace hf := ob_ef c_316 hf
                                              refine lv_aload_n hx hb d_Md_doOrder_319 rfl (lv_at hl 2 rfl) ?_
                                              refine va_get (D := G.1) (ci := 9) (v := .ref (a 1)) (C := R_Md) (T := T_Md) (N := 9) hx hb hts in_Md hown hK hP 0 rfl rfl 0 (by decide) (hts _ k_753) (fun _ h9 => h9) rfl d_Md_doOrder_320 ?_
                                              refine lv_iload_n hx hb d_Md_doOrder_323 rfl (lv_at hl 1 rfl) ?_
                                              obtain ⟨q_324, hc_324, hf⟩ := oc_e hf
                                              refine kcS (cc := c_Md_doOrder) (own := "FloodDiaryModel") (index := 137) (wc := W_Row G 2400 (a 1) v.1) (wr := O_Md G a v ++ (W_Row G 2400 (a 2) v.2.1 ++ (W_Row G 14400 (a 3) v.2.2.1 ++ (W_Row G 4800 (a 4) v.2.2.2.2.1 ++ (W_RowZ G 2 (a 5) v.2.2.2.2.2.1 ++ (W_Row G 80 (a 6) v.2.2.2.2.2.2.1 ++ (([] : va_W)))))))) (wc' := W_Row G 2400 (a 1) q_324.2) (ws' := W_Md G a (q_324.2, v.2.1, v.2.2.1, v.2.2.2.1, v.2.2.2.2.1, v.2.2.2.2.2.1, v.2.2.2.2.2.2.1, v.2.2.2.2.2.2.2.1, v.2.2.2.2.2.2.2.2)) hx hb hml hown hts hK hN hA hP hD hS (t_Md_tearOn l G (a 1) s0 v.1 q_324 hc_324) m_Md_tearOn k_867 ⟨Nat.le_of_ble_eq_true rfl, Nat.le_of_ble_eq_true rfl⟩ (pm_12 (O_Md G a v) (W_Row G 2400 (a 1) v.1) (W_Row G 2400 (a 2) v.2.1) (W_Row G 14400 (a 3) v.2.2.1) (W_Row G 4800 (a 4) v.2.2.2.2.1) (W_RowZ G 2 (a 5) v.2.2.2.2.2.1) (W_Row G 80 (a 6) v.2.2.2.2.2.2.1)) (pm_12 (O_Md G a (q_324.2, v.2.1, v.2.2.1, v.2.2.2.1, v.2.2.2.2.1, v.2.2.2.2.2.1, v.2.2.2.2.2.2.1, v.2.2.2.2.2.2.2.1, v.2.2.2.2.2.2.2.2)) (W_Row G 2400 (a 1) q_324.2) (W_Row G 2400 (a 2) v.2.1) (W_Row G 14400 (a 3) v.2.2.1) (W_Row G 4800 (a 4) v.2.2.2.2.1) (W_RowZ G 2 (a 5) v.2.2.2.2.2.1) (W_Row G 80 (a 6) v.2.2.2.2.2.2.1)).symm rfl rfl (Nat.le_of_ble_eq_true rfl) hl.1 d_Md_doOrder_324 ⟨Nat.zero_le _, Nat.zero_le _⟩ (fun H locs hP hD hS => ?_)
                                              refine lv_pop hx hb d_Md_doOrder_327 rfl ?_
                                              refine lv_iload_n hx hb d_Md_doOrder_328 rfl (lv_at hl 0 rfl) ?_
                                              cases hf
                                              exact kZ hx hb hr hlk hP hD hS (Or.inl rfl) d_Md_doOrder_329
                                          · replace hf := ob_et c_306 hf
                                            refine lv_iconst (v := (1 : Int32)) hx hb d_Md_doOrder_309 (by decide) ?_
                                            refine lv_goto (tgt := 314) hx hb d_Md_doOrder_310 (by decide) ?_
                                            refine lv_istore_n (lv' := [(3, .int (1 : Int32)), (2, .int s0), (0, .ref (a 0)), (1, .int l1)]) hx hb d_Md_doOrder_314 rfl hl (by decide) rfl (fun ls hl => ?_)
                                            refine lv_iload_n hx hb d_Md_doOrder_315 rfl (lv_at hl 0 rfl) ?_
                                            refine lv_if_eq (tgt := 328) hx hb d_Md_doOrder_316 (by decide) (fun c_316 => ?_) (fun c_316 => ?_)
                                            · replace hf := ob_et c_316 hf
                                              refine lv_iload_n hx hb d_Md_doOrder_328 rfl (lv_at hl 0 rfl) ?_
                                              cases hf
                                              exact kZ hx hb hr hlk hP hD hS (Or.inr rfl) d_Md_doOrder_329
                                            · replace hf := ob_ef c_316 hf
                                              refine lv_aload_n hx hb d_Md_doOrder_319 rfl (lv_at hl 2 rfl) ?_
                                              refine va_get (D := G.1) (ci := 9) (v := .ref (a 1)) (C := R_Md) (T := T_Md) (N := 9) hx hb hts in_Md hown hK hP 0 rfl rfl 0 (by decide) (hts _ k_753) (fun _ h9 => h9) rfl d_Md_doOrder_320 ?_
                                              refine lv_iload_n hx hb d_Md_doOrder_323 rfl (lv_at hl 1 rfl) ?_
                                              obtain ⟨q_324, hc_324, hf⟩ := oc_e hf
                                              refine kcS (cc := c_Md_doOrder) (own := "FloodDiaryModel") (index := 137) (wc := W_Row G 2400 (a 1) v.1) (wr := O_Md G a v ++ (W_Row G 2400 (a 2) v.2.1 ++ (W_Row G 14400 (a 3) v.2.2.1 ++ (W_Row G 4800 (a 4) v.2.2.2.2.1 ++ (W_RowZ G 2 (a 5) v.2.2.2.2.2.1 ++ (W_Row G 80 (a 6) v.2.2.2.2.2.2.1 ++ (([] : va_W)))))))) (wc' := W_Row G 2400 (a 1) q_324.2) (ws' := W_Md G a (q_324.2, v.2.1, v.2.2.1, v.2.2.2.1, v.2.2.2.2.1, v.2.2.2.2.2.1, v.2.2.2.2.2.2.1, v.2.2.2.2.2.2.2.1, v.2.2.2.2.2.2.2.2)) hx hb hml hown hts hK hN hA hP hD hS (t_Md_tearOn l G (a 1) s0 v.1 q_324 hc_324) m_Md_tearOn k_867 ⟨Nat.le_of_ble_eq_true rfl, Nat.le_of_ble_eq_true rfl⟩ (pm_12 (O_Md G a v) (W_Row G 2400 (a 1) v.1) (W_Row G 2400 (a 2) v.2.1) (W_Row G 14400 (a 3) v.2.2.1) (W_Row G 4800 (a 4) v.2.2.2.2.1) (W_RowZ G 2 (a 5) v.2.2.2.2.2.1) (W_Row G 80 (a 6) v.2.2.2.2.2.2.1)) (pm_12 (O_Md G a (q_324.2, v.2.1, v.2.2.1, v.2.2.2.1, v.2.2.2.2.1, v.2.2.2.2.2.1, v.2.2.2.2.2.2.1, v.2.2.2.2.2.2.2.1, v.2.2.2.2.2.2.2.2)) (W_Row G 2400 (a 1) q_324.2) (W_Row G 2400 (a 2) v.2.1) (W_Row G 14400 (a 3) v.2.2.1) (W_Row G 4800 (a 4) v.2.2.2.2.1) (W_RowZ G 2 (a 5) v.2.2.2.2.2.1) (W_Row G 80 (a 6) v.2.2.2.2.2.2.1)).symm rfl rfl (Nat.le_of_ble_eq_true rfl) hl.1 d_Md_doOrder_324 ⟨Nat.zero_le _, Nat.zero_le _⟩ (fun H locs hP hD hS => ?_)
                                              refine lv_pop hx hb d_Md_doOrder_327 rfl ?_
                                              refine lv_iload_n hx hb d_Md_doOrder_328 rfl (lv_at hl 0 rfl) ?_
                                              cases hf
                                              exact kZ hx hb hr hlk hP hD hS (Or.inr rfl) d_Md_doOrder_329
                                        · replace hf := ob_ef e_54_116 hf
                                          by_cases e_54_117 : l1 = (117 : Int32)
                                          · replace hf := ob_et e_54_117 hf
                                            refine lv_tableIn (off := 349) (tgt := 403) hx hb d_Md_doOrder_54 (by rw [e_54_117]; decide) (by rw [e_54_117]; decide) (by rw [e_54_117]; decide) (by decide) ?_
                                            exact J_403 s0 v _ _ ls hP hD hS (lv_sub hl [1, 0] rfl) hf
                                          · replace hf := ob_ef e_54_117 hf
                                            by_cases e_54_118 : l1 = (118 : Int32)
                                            · replace hf := ob_et e_54_118 hf
                                              refine lv_tableIn (off := 349) (tgt := 403) hx hb d_Md_doOrder_54 (by rw [e_54_118]; decide) (by rw [e_54_118]; decide) (by rw [e_54_118]; decide) (by decide) ?_
                                              exact J_403 s0 v _ _ ls hP hD hS (lv_sub hl [1, 0] rfl) hf
                                            · replace hf := ob_ef e_54_118 hf
                                              by_cases e_54_119 : l1 = (119 : Int32)
                                              · replace hf := ob_et e_54_119 hf
                                                refine lv_tableIn (off := 136) (tgt := 190) hx hb d_Md_doOrder_54 (by rw [e_54_119]; decide) (by rw [e_54_119]; decide) (by rw [e_54_119]; decide) (by decide) ?_
                                                refine lv_aload_n hx hb d_Md_doOrder_190 rfl (lv_at hl 1 rfl) ?_
                                                refine lv_dup hx hb d_Md_doOrder_191 rfl ?_
                                                refine va_get (D := G.1) (ci := 9) (v := .int v.2.2.2.2.2.2.2.2) (C := R_Md) (T := T_Md) (N := 9) hx hb hts in_Md hown hK hP 0 rfl rfl 8 (by decide) (hts _ k_761) (fun _ h9 => h9) rfl d_Md_doOrder_192 ?_
                                                refine lv_iconst (v := (1 : Int32)) hx hb d_Md_doOrder_195 (by decide) ?_
                                                refine lv_iadd hx hb d_Md_doOrder_196 ?_
                                                refine va_put (D := G.1) (ci := 9) (v := .int (v.2.2.2.2.2.2.2.2 + (1 : Int32))) (ty := .int) (C := R_Md) (T := T_Md) (N := 9) hx hb hts in_Md ty_Md ty_Md_ok nm_Md hown hK hP hD hS 0 rfl rfl 8 (by decide) (hts _ k_761) (fun _ h9 => h9) rfl (ty_Md_ok 8 (by decide)) rfl rfl (Nat.le_of_ble_eq_true rfl) d_Md_doOrder_197 (fun H locs hP hD hS => ?_)
                                                have hP : va_P G.1 vwCl (W_Md G a (v.1, v.2.1, v.2.2.1, v.2.2.2.1, v.2.2.2.2.1, v.2.2.2.2.2.1, v.2.2.2.2.2.2.1, v.2.2.2.2.2.2.2.1, (v.2.2.2.2.2.2.2.2 + (1 : Int32)))) H := hP
                                                have hD : va_D A (W_Md G a (v.1, v.2.1, v.2.2.1, v.2.2.2.1, v.2.2.2.2.1, v.2.2.2.2.2.1, v.2.2.2.2.2.2.1, v.2.2.2.2.2.2.2.1, (v.2.2.2.2.2.2.2.2 + (1 : Int32)))) := hD
                                                refine lv_aload_n hx hb d_Md_doOrder_200 rfl (lv_at hl 1 rfl) ?_
                                                refine lv_bipush (v := (48 : Int32)) hx hb d_Md_doOrder_201 (by decide) ?_
                                                refine lv_bipush (v := (55 : Int32)) hx hb d_Md_doOrder_203 (by decide) ?_
                                                obtain ⟨q_205, hc_205, hf⟩ := oc_e hf
                                                refine kcV (cc := c_Md_doOrder) (own := "FloodDiaryModel") (index := 185) (wc := W_Md G a (v.1, v.2.1, v.2.2.1, v.2.2.2.1, v.2.2.2.2.1, v.2.2.2.2.2.1, v.2.2.2.2.2.2.1, v.2.2.2.2.2.2.2.1, (v.2.2.2.2.2.2.2.2 + (1 : Int32)))) (wr := ([] : va_W)) (wc' := W_Md G a q_205.2) (ws' := W_Md G a q_205.2) hx hb hml hown hts hK hN hA hP hD hS (t_Md_taken l G a (48 : Int32) (55 : Int32) (v.1, v.2.1, v.2.2.1, v.2.2.2.1, v.2.2.2.2.1, v.2.2.2.2.2.1, v.2.2.2.2.2.2.1, v.2.2.2.2.2.2.2.1, (v.2.2.2.2.2.2.2.2 + (1 : Int32))) q_205 hc_205) m_Md_taken k_997 ⟨Nat.le_of_ble_eq_true rfl, Nat.le_of_ble_eq_true rfl⟩ (pm_0 (W_Md G a (v.1, v.2.1, v.2.2.1, v.2.2.2.1, v.2.2.2.2.1, v.2.2.2.2.2.1, v.2.2.2.2.2.2.1, v.2.2.2.2.2.2.2.1, (v.2.2.2.2.2.2.2.2 + (1 : Int32))))) (pm_0 (W_Md G a q_205.2)).symm 9 0 rfl rfl rfl rfl rfl (Nat.le_of_ble_eq_true rfl) hl.1 d_Md_doOrder_205 ⟨Nat.zero_le _, Nat.zero_le _⟩ (fun H locs hP hD hS => ?_)
                                                refine lv_istore (lv' := [(4, .int q_205.1), (2, .int s0), (0, .ref (a 0)), (1, .int l1)]) hx hb d_Md_doOrder_208 hl (by decide) rfl (fun ls hl => ?_)
                                                refine lv_aload_n hx hb d_Md_doOrder_210 rfl (lv_at hl 2 rfl) ?_
                                                refine lv_dup hx hb d_Md_doOrder_211 rfl ?_
                                                refine va_get (D := G.1) (ci := 9) (v := .int q_205.2.2.2.2.2.2.2.2.2) (C := R_Md) (T := T_Md) (N := 9) hx hb hts in_Md hown hK hP 0 rfl rfl 8 (by decide) (hts _ k_761) (fun _ h9 => h9) rfl d_Md_doOrder_212 ?_
                                                refine lv_iconst (v := (1 : Int32)) hx hb d_Md_doOrder_215 (by decide) ?_
                                                refine lv_iadd hx hb d_Md_doOrder_216 ?_
                                                refine va_put (D := G.1) (ci := 9) (v := .int (q_205.2.2.2.2.2.2.2.2.2 + (1 : Int32))) (ty := .int) (C := R_Md) (T := T_Md) (N := 9) hx hb hts in_Md ty_Md ty_Md_ok nm_Md hown hK hP hD hS 0 rfl rfl 8 (by decide) (hts _ k_761) (fun _ h9 => h9) rfl (ty_Md_ok 8 (by decide)) rfl rfl (Nat.le_of_ble_eq_true rfl) d_Md_doOrder_217 (fun H locs hP hD hS => ?_)
                                                have hP : va_P G.1 vwCl (W_Md G a (q_205.2.1, q_205.2.2.1, q_205.2.2.2.1, q_205.2.2.2.2.1, q_205.2.2.2.2.2.1, q_205.2.2.2.2.2.2.1, q_205.2.2.2.2.2.2.2.1, q_205.2.2.2.2.2.2.2.2.1, (q_205.2.2.2.2.2.2.2.2.2 + (1 : Int32)))) H := hP
                                                have hD : va_D A (W_Md G a (q_205.2.1, q_205.2.2.1, q_205.2.2.2.1, q_205.2.2.2.2.1, q_205.2.2.2.2.2.1, q_205.2.2.2.2.2.2.1, q_205.2.2.2.2.2.2.2.1, q_205.2.2.2.2.2.2.2.2.1, (q_205.2.2.2.2.2.2.2.2.2 + (1 : Int32)))) := hD
                                                refine lv_aload_n hx hb d_Md_doOrder_220 rfl (lv_at hl 2 rfl) ?_
                                                obtain ⟨q_221, hc_221, hf⟩ := oc_e hf
                                                refine kcV (cc := c_Md_doOrder) (own := "FloodDiaryModel") (index := 193) (wc := W_Md G a (q_205.2.1, q_205.2.2.1, q_205.2.2.2.1, q_205.2.2.2.2.1, q_205.2.2.2.2.2.1, q_205.2.2.2.2.2.2.1, q_205.2.2.2.2.2.2.2.1, q_205.2.2.2.2.2.2.2.2.1, (q_205.2.2.2.2.2.2.2.2.2 + (1 : Int32)))) (wr := ([] : va_W)) (wc' := W_Md G a q_221.2) (ws' := W_Md G a q_221.2) hx hb hml hown hts hK hN hA hP hD hS (t_Md_number l G a (q_205.2.1, q_205.2.2.1, q_205.2.2.2.1, q_205.2.2.2.2.1, q_205.2.2.2.2.2.1, q_205.2.2.2.2.2.2.1, q_205.2.2.2.2.2.2.2.1, q_205.2.2.2.2.2.2.2.2.1, (q_205.2.2.2.2.2.2.2.2.2 + (1 : Int32))) q_221 hc_221) m_Md_number k_1001 ⟨Nat.le_of_ble_eq_true rfl, Nat.le_of_ble_eq_true rfl⟩ (pm_0 (W_Md G a (q_205.2.1, q_205.2.2.1, q_205.2.2.2.1, q_205.2.2.2.2.1, q_205.2.2.2.2.2.1, q_205.2.2.2.2.2.2.1, q_205.2.2.2.2.2.2.2.1, q_205.2.2.2.2.2.2.2.2.1, (q_205.2.2.2.2.2.2.2.2.2 + (1 : Int32))))) (pm_0 (W_Md G a q_221.2)).symm 9 0 rfl rfl rfl rfl rfl (Nat.le_of_ble_eq_true rfl) hl.1 d_Md_doOrder_221 ⟨Nat.zero_le _, Nat.zero_le _⟩ (fun H locs hP hD hS => ?_)
                                                refine lv_istore (lv' := [(5, .int q_221.1), (4, .int q_205.1), (2, .int s0), (0, .ref (a 0)), (1, .int l1)]) hx hb d_Md_doOrder_224 hl (by decide) rfl (fun ls hl => ?_)
                                                refine lv_aload_n hx hb d_Md_doOrder_226 rfl (lv_at hl 3 rfl) ?_
                                                refine va_get (D := G.1) (ci := 9) (v := .ref (a 1)) (C := R_Md) (T := T_Md) (N := 9) hx hb hts in_Md hown hK hP 0 rfl rfl 0 (by decide) (hts _ k_753) (fun _ h9 => h9) rfl d_Md_doOrder_227 ?_
                                                refine lv_iload_n hx hb d_Md_doOrder_230 rfl (lv_at hl 2 rfl) ?_
                                                refine lv_iload hx hb d_Md_doOrder_231 (lv_at hl 1 rfl) ?_
                                                refine lv_iload hx hb d_Md_doOrder_233 (lv_at hl 0 rfl) ?_
                                                obtain ⟨q_235, hc_235, hf⟩ := oc_e hf
                                                refine kcS (cc := c_Md_doOrder) (own := "FloodDiaryModel") (index := 115) (wc := W_Row G 2400 (a 1) q_221.2.1) (wr := O_Md G a q_221.2 ++ (W_Row G 2400 (a 2) q_221.2.2.1 ++ (W_Row G 14400 (a 3) q_221.2.2.2.1 ++ (W_Row G 4800 (a 4) q_221.2.2.2.2.2.1 ++ (W_RowZ G 2 (a 5) q_221.2.2.2.2.2.2.1 ++ (W_Row G 80 (a 6) q_221.2.2.2.2.2.2.2.1 ++ (([] : va_W)))))))) (wc' := W_Row G 2400 (a 1) q_221.2.1) (ws' := W_Md G a q_221.2) hx hb hml hown hts hK hN hA hP hD hS (t_Md_whyNotWrite l G (a 1) s0 q_205.1 q_221.1 q_221.2.1 q_235 hc_235) m_Md_whyNotWrite k_812 ⟨Nat.le_of_ble_eq_true rfl, Nat.le_of_ble_eq_true rfl⟩ (pm_12 (O_Md G a q_221.2) (W_Row G 2400 (a 1) q_221.2.1) (W_Row G 2400 (a 2) q_221.2.2.1) (W_Row G 14400 (a 3) q_221.2.2.2.1) (W_Row G 4800 (a 4) q_221.2.2.2.2.2.1) (W_RowZ G 2 (a 5) q_221.2.2.2.2.2.2.1) (W_Row G 80 (a 6) q_221.2.2.2.2.2.2.2.1)) (pm_12 (O_Md G a q_221.2) (W_Row G 2400 (a 1) q_221.2.1) (W_Row G 2400 (a 2) q_221.2.2.1) (W_Row G 14400 (a 3) q_221.2.2.2.1) (W_Row G 4800 (a 4) q_221.2.2.2.2.2.1) (W_RowZ G 2 (a 5) q_221.2.2.2.2.2.2.1) (W_Row G 80 (a 6) q_221.2.2.2.2.2.2.2.1)).symm rfl rfl (Nat.le_of_ble_eq_true rfl) hl.1 d_Md_doOrder_235 ⟨Nat.zero_le _, Nat.zero_le _⟩ (fun H locs hP hD hS => ?_)
                                                refine lv_if_ne (tgt := 245) hx hb d_Md_doOrder_238 (by decide) (fun c_238 => ?_) (fun c_238 => ?_)
                                                · replace hf := ob_ef c_238 hf
                                                  refine lv_iconst (v := (0 : Int32)) hx hb d_Md_doOrder_245 (by decide) ?_
                                                  refine lv_istore_n (lv' := [(3, .int (0 : Int32)), (5, .int q_221.1), (4, .int q_205.1), (2, .int s0), (0, .ref (a 0)), (1, .int l1)]) hx hb d_Md_doOrder_246 rfl hl (by decide) rfl (fun ls hl => ?_)
                                                  refine lv_iload_n hx hb d_Md_doOrder_247 rfl (lv_at hl 0 rfl) ?_
                                                  refine lv_if_eq (tgt := 264) hx hb d_Md_doOrder_248 (by decide) (fun c_248 => ?_) (fun c_248 => ?_)
                                                  · replace hf := ob_et c_248 hf
                                                    refine lv_iload_n hx hb d_Md_doOrder_264 rfl (lv_at hl 0 rfl) ?_
                                                    cases hf
                                                    exact kZ hx hb hr hlk hP hD hS (Or.inl rfl) d_Md_doOrder_265
                                                  · replace hf := ob_ef c_248 hf
                                                    refine lv_aload_n hx hb d_Md_doOrder_251 rfl (lv_at hl 4 rfl) ?_
                                                    refine va_get (D := G.1) (ci := 9) (v := .ref (a 1)) (C := R_Md) (T := T_Md) (N := 9) hx hb hts in_Md hown hK hP 0 rfl rfl 0 (by decide) (hts _ k_753) (fun _ h9 => h9) rfl d_Md_doOrder_252 ?_
                                                    refine lv_iload_n hx hb d_Md_doOrder_255 rfl (lv_at hl 3 rfl) ?_
                                                    refine lv_iload hx hb d_Md_doOrder_256 (lv_at hl 2 rfl) ?_
                                                    refine lv_iload hx hb d_Md_doOrder_258 (lv_at hl 1 rfl) ?_
                                                    obtain ⟨q_260, hc_260, hf⟩ := oc_e hf
                                                    refine kcS (cc := c_Md_doOrder) (own := "FloodDiaryModel") (index := 119) (wc := W_Row G 2400 (a 1) q_221.2.1) (wr := O_Md G a q_221.2 ++ (W_Row G 2400 (a 2) q_221.2.2.1 ++ (W_Row G 14400 (a 3) q_221.2.2.2.1 ++ (W_Row G 4800 (a 4) q_221.2.2.2.2.2.1 ++ (W_RowZ G 2 (a 5) q_221.2.2.2.2.2.2.1 ++ (W_Row G 80 (a 6) q_221.2.2.2.2.2.2.2.1 ++ (([] : va_W)))))))) (wc' := W_Row G 2400 (a 1) q_260.2) (ws' := W_Md G a (q_260.2, q_221.2.2.1, q_221.2.2.2.1, q_221.2.2.2.2.1, q_221.2.2.2.2.2.1, q_221.2.2.2.2.2.2.1, q_221.2.2.2.2.2.2.2.1, q_221.2.2.2.2.2.2.2.2.1, q_221.2.2.2.2.2.2.2.2.2)) hx hb hml hown hts hK hN hA hP hD hS (t_Md_writeOn l G (a 1) s0 q_205.1 q_221.1 q_221.2.1 q_260 hc_260) m_Md_writeOn k_835 ⟨Nat.le_of_ble_eq_true rfl, Nat.le_of_ble_eq_true rfl⟩ (pm_12 (O_Md G a q_221.2) (W_Row G 2400 (a 1) q_221.2.1) (W_Row G 2400 (a 2) q_221.2.2.1) (W_Row G 14400 (a 3) q_221.2.2.2.1) (W_Row G 4800 (a 4) q_221.2.2.2.2.2.1) (W_RowZ G 2 (a 5) q_221.2.2.2.2.2.2.1) (W_Row G 80 (a 6) q_221.2.2.2.2.2.2.2.1)) (pm_12 (O_Md G a (q_260.2, q_221.2.2.1, q_221.2.2.2.1, q_221.2.2.2.2.1, q_221.2.2.2.2.2.1, q_221.2.2.2.2.2.2.1, q_221.2.2.2.2.2.2.2.1, q_221.2.2.2.2.2.2.2.2.1, q_221.2.2.2.2.2.2.2.2.2)) (W_Row G 2400 (a 1) q_260.2) (W_Row G 2400 (a 2) q_221.2.2.1) (W_Row G 14400 (a 3) q_221.2.2.2.1) (W_Row G 4800 (a 4) q_221.2.2.2.2.2.1) (W_RowZ G 2 (a 5) q_221.2.2.2.2.2.2.1) (W_Row G 80 (a 6) q_221.2.2.2.2.2.2.2.1)).symm rfl rfl (Nat.le_of_ble_eq_true rfl) hl.1 d_Md_doOrder_260 ⟨Nat.zero_le _, Nat.zero_le _⟩ (fun H locs hP hD hS => ?_)
                                                    refine lv_pop hx hb d_Md_doOrder_263 rfl ?_
                                                    refine lv_iload_n hx hb d_Md_doOrder_264 rfl (lv_at hl 0 rfl) ?_
                                                    cases hf
                                                    exact kZ hx hb hr hlk hP hD hS (Or.inl rfl) d_Md_doOrder_265
                                                · replace hf := ob_et c_238 hf
                                                  refine lv_iconst (v := (1 : Int32)) hx hb d_Md_doOrder_241 (by decide) ?_
                                                  refine lv_goto (tgt := 246) hx hb d_Md_doOrder_242 (by decide) ?_
                                                  refine lv_istore_n (lv' := [(3, .int (1 : Int32)), (5, .int q_221.1), (4, .int q_205.1), (2, .int s0), (0, .ref (a 0)), (1, .int l1)]) hx hb d_Md_doOrder_246 rfl hl (by decide) rfl (fun ls hl => ?_)
                                                  refine lv_iload_n hx hb d_Md_doOrder_247 rfl (lv_at hl 0 rfl) ?_
                                                  refine lv_if_eq (tgt := 264) hx hb d_Md_doOrder_248 (by decide) (fun c_248 => ?_) (fun c_248 => ?_)
                                                  · replace hf := ob_et c_248 hf
                                                    refine lv_iload_n hx hb d_Md_doOrder_264 rfl (lv_at hl 0 rfl) ?_
                                                    cases hf
                                                    exact kZ hx hb hr hlk hP hD hS (Or.inr rfl) d_Md_doOrder_265
                                                  · replace hf := ob_ef c_248 hf
                                                    refine lv_aload_n hx hb d_Md_doOrder_251 rfl (lv_at hl 4 rfl) ?_
                                                    refine va_get (D := G.1) (ci := 9) (v := .ref (a 1)) (C := R_Md) (T := T_Md) (N := 9) hx hb hts in_Md hown hK hP 0 rfl rfl 0 (by decide) (hts _ k_753) (fun _ h9 => h9) rfl d_Md_doOrder_252 ?_
                                                    refine lv_iload_n hx hb d_Md_doOrder_255 rfl (lv_at hl 3 rfl) ?_
                                                    refine lv_iload hx hb d_Md_doOrder_256 (lv_at hl 2 rfl) ?_
                                                    refine lv_iload hx hb d_Md_doOrder_258 (lv_at hl 1 rfl) ?_
                                                    obtain ⟨q_260, hc_260, hf⟩ := oc_e hf
                                                    refine kcS (cc := c_Md_doOrder) (own := "FloodDiaryModel") (index := 119) (wc := W_Row G 2400 (a 1) q_221.2.1) (wr := O_Md G a q_221.2 ++ (W_Row G 2400 (a 2) q_221.2.2.1 ++ (W_Row G 14400 (a 3) q_221.2.2.2.1 ++ (W_Row G 4800 (a 4) q_221.2.2.2.2.2.1 ++ (W_RowZ G 2 (a 5) q_221.2.2.2.2.2.2.1 ++ (W_Row G 80 (a 6) q_221.2.2.2.2.2.2.2.1 ++ (([] : va_W)))))))) (wc' := W_Row G 2400 (a 1) q_260.2) (ws' := W_Md G a (q_260.2, q_221.2.2.1, q_221.2.2.2.1, q_221.2.2.2.2.1, q_221.2.2.2.2.2.1, q_221.2.2.2.2.2.2.1, q_221.2.2.2.2.2.2.2.1, q_221.2.2.2.2.2.2.2.2.1, q_221.2.2.2.2.2.2.2.2.2)) hx hb hml hown hts hK hN hA hP hD hS (t_Md_writeOn l G (a 1) s0 q_205.1 q_221.1 q_221.2.1 q_260 hc_260) m_Md_writeOn k_835 ⟨Nat.le_of_ble_eq_true rfl, Nat.le_of_ble_eq_true rfl⟩ (pm_12 (O_Md G a q_221.2) (W_Row G 2400 (a 1) q_221.2.1) (W_Row G 2400 (a 2) q_221.2.2.1) (W_Row G 14400 (a 3) q_221.2.2.2.1) (W_Row G 4800 (a 4) q_221.2.2.2.2.2.1) (W_RowZ G 2 (a 5) q_221.2.2.2.2.2.2.1) (W_Row G 80 (a 6) q_221.2.2.2.2.2.2.2.1)) (pm_12 (O_Md G a (q_260.2, q_221.2.2.1, q_221.2.2.2.1, q_221.2.2.2.2.1, q_221.2.2.2.2.2.1, q_221.2.2.2.2.2.2.1, q_221.2.2.2.2.2.2.2.1, q_221.2.2.2.2.2.2.2.2.1, q_221.2.2.2.2.2.2.2.2.2)) (W_Row G 2400 (a 1) q_260.2) (W_Row G 2400 (a 2) q_221.2.2.1) (W_Row G 14400 (a 3) q_221.2.2.2.1) (W_Row G 4800 (a 4) q_221.2.2.2.2.2.1) (W_RowZ G 2 (a 5) q_221.2.2.2.2.2.2.1) (W_Row G 80 (a 6) q_221.2.2.2.2.2.2.2.1)).symm rfl rfl (Nat.le_of_ble_eq_true rfl) hl.1 d_Md_doOrder_260 ⟨Nat.zero_le _, Nat.zero_le _⟩ (fun H locs hP hD hS => ?_)
                                                    refine lv_pop hx hb d_Md_doOrder_263 rfl ?_
                                                    refine lv_iload_n hx hb d_Md_doOrder_264 rfl (lv_at hl 0 rfl) ?_
                                                    cases hf
                                                    exact kZ hx hb hr hlk hP hD hS (Or.inr rfl) d_Md_doOrder_265
                                              · replace hf := ob_ef e_54_119 hf
                                                by_cases e_54_120 : l1 = (120 : Int32)
                                                · replace hf := ob_et e_54_120 hf
                                                  refine lv_tableIn (off := 339) (tgt := 393) hx hb d_Md_doOrder_54 (by rw [e_54_120]; decide) (by rw [e_54_120]; decide) (by rw [e_54_120]; decide) (by decide) ?_
                                                  refine lv_aload_n hx hb d_Md_doOrder_393 rfl (lv_at hl 1 rfl) ?_
                                                  refine va_get (D := G.1) (ci := 9) (v := .ref (a 1)) (C := R_Md) (T := T_Md) (N := 9) hx hb hts in_Md hown hK hP 0 rfl rfl 0 (by decide) (hts _ k_753) (fun _ h9 => h9) rfl d_Md_doOrder_394 ?_
                                                  obtain ⟨q_397, hc_397, hf⟩ := oc_e hf
                                                  refine kcS (cc := c_Md_doOrder) (own := "FloodDiaryModel") (index := 149) (wc := W_Row G 2400 (a 1) v.1) (wr := O_Md G a v ++ (W_Row G 2400 (a 2) v.2.1 ++ (W_Row G 14400 (a 3) v.2.2.1 ++ (W_Row G 4800 (a 4) v.2.2.2.2.1 ++ (W_RowZ G 2 (a 5) v.2.2.2.2.2.1 ++ (W_Row G 80 (a 6) v.2.2.2.2.2.2.1 ++ (([] : va_W)))))))) (wc' := W_Row G 2400 (a 1) q_397.2) (ws' := W_Md G a (q_397.2, v.2.1, v.2.2.1, v.2.2.2.1, v.2.2.2.2.1, v.2.2.2.2.2.1, v.2.2.2.2.2.2.1, v.2.2.2.2.2.2.2.1, v.2.2.2.2.2.2.2.2)) hx hb hml hown hts hK hN hA hP hD hS (t_Md_floodOn l G (a 1) v.1 q_397 hc_397) m_Md_floodOn k_897 ⟨Nat.le_of_ble_eq_true rfl, Nat.le_of_ble_eq_true rfl⟩ (pm_12 (O_Md G a v) (W_Row G 2400 (a 1) v.1) (W_Row G 2400 (a 2) v.2.1) (W_Row G 14400 (a 3) v.2.2.1) (W_Row G 4800 (a 4) v.2.2.2.2.1) (W_RowZ G 2 (a 5) v.2.2.2.2.2.1) (W_Row G 80 (a 6) v.2.2.2.2.2.2.1)) (pm_12 (O_Md G a (q_397.2, v.2.1, v.2.2.1, v.2.2.2.1, v.2.2.2.2.1, v.2.2.2.2.2.1, v.2.2.2.2.2.2.1, v.2.2.2.2.2.2.2.1, v.2.2.2.2.2.2.2.2)) (W_Row G 2400 (a 1) q_397.2) (W_Row G 2400 (a 2) v.2.1) (W_Row G 14400 (a 3) v.2.2.1) (W_Row G 4800 (a 4) v.2.2.2.2.1) (W_RowZ G 2 (a 5) v.2.2.2.2.2.1) (W_Row G 80 (a 6) v.2.2.2.2.2.2.1)).symm rfl rfl (Nat.le_of_ble_eq_true rfl) hl.1 d_Md_doOrder_397 ⟨Nat.zero_le _, Nat.zero_le _⟩ (fun H locs hP hD hS => ?_)
                                                  refine lv_pop hx hb d_Md_doOrder_400 rfl ?_
                                                  refine lv_iconst (v := (1 : Int32)) hx hb d_Md_doOrder_401 (by decide) ?_
                                                  cases hf
                                                  exact kZ hx hb hr hlk hP hD hS (Or.inr rfl) d_Md_doOrder_402
                                                · replace hf := ob_ef e_54_120 hf
                                                  have z_54_98 := lv_neT e_54_98 (show (98 : Int32).toInt = 98 by decide)
                                                  have z_54_99 := lv_neT e_54_99 (show (99 : Int32).toInt = 99 by decide)
                                                  have z_54_100 := lv_neT e_54_100 (show (100 : Int32).toInt = 100 by decide)
                                                  have z_54_101 := lv_neT e_54_101 (show (101 : Int32).toInt = 101 by decide)
                                                  have z_54_102 := lv_neT e_54_102 (show (102 : Int32).toInt = 102 by decide)
                                                  have z_54_103 := lv_neT e_54_103 (show (103 : Int32).toInt = 103 by decide)
                                                  have z_54_104 := lv_neT e_54_104 (show (104 : Int32).toInt = 104 by decide)
                                                  have z_54_105 := lv_neT e_54_105 (show (105 : Int32).toInt = 105 by decide)
                                                  have z_54_106 := lv_neT e_54_106 (show (106 : Int32).toInt = 106 by decide)
                                                  have z_54_107 := lv_neT e_54_107 (show (107 : Int32).toInt = 107 by decide)
                                                  have z_54_108 := lv_neT e_54_108 (show (108 : Int32).toInt = 108 by decide)
                                                  have z_54_109 := lv_neT e_54_109 (show (109 : Int32).toInt = 109 by decide)
                                                  have z_54_110 := lv_neT e_54_110 (show (110 : Int32).toInt = 110 by decide)
                                                  have z_54_111 := lv_neT e_54_111 (show (111 : Int32).toInt = 111 by decide)
                                                  have z_54_112 := lv_neT e_54_112 (show (112 : Int32).toInt = 112 by decide)
                                                  have z_54_113 := lv_neT e_54_113 (show (113 : Int32).toInt = 113 by decide)
                                                  have z_54_114 := lv_neT e_54_114 (show (114 : Int32).toInt = 114 by decide)
                                                  have z_54_115 := lv_neT e_54_115 (show (115 : Int32).toInt = 115 by decide)
                                                  have z_54_116 := lv_neT e_54_116 (show (116 : Int32).toInt = 116 by decide)
                                                  have z_54_117 := lv_neT e_54_117 (show (117 : Int32).toInt = 117 by decide)
                                                  have z_54_118 := lv_neT e_54_118 (show (118 : Int32).toInt = 118 by decide)
                                                  have z_54_119 := lv_neT e_54_119 (show (119 : Int32).toInt = 119 by decide)
                                                  have z_54_120 := lv_neT e_54_120 (show (120 : Int32).toInt = 120 by decide)
                                                  refine lv_tableOut (tgt := 403) hx hb d_Md_doOrder_54 (by omega) (by decide) ?_
                                                  exact J_403 s0 v _ _ ls hP hD hS (lv_sub hl [1, 0] rfl) hf
  unfold f_Md_doOrder at hf
  refine lv_aload_n hx hb d_Md_doOrder_0 rfl (lv_at hl 0 rfl) ?_
  obtain ⟨q_1, hc_1, hf⟩ := oc_e hf
  refine kcV (cc := c_Md_doOrder) (own := "FloodDiaryModel") (index := 182) (wc := W_Md G a v) (wr := ([] : va_W)) (wc' := W_Md G a v) (ws' := W_Md G a v) hx hb hml hown hts hK hN hA hP hD hS (t_Md_sign l G a v q_1 hc_1) m_Md_sign k_993 ⟨Nat.le_of_ble_eq_true rfl, Nat.le_of_ble_eq_true rfl⟩ (pm_0 (W_Md G a v)) (pm_0 (W_Md G a v)).symm 9 0 rfl rfl rfl rfl rfl (Nat.le_of_ble_eq_true rfl) hl.1 d_Md_doOrder_1 ⟨Nat.zero_le _, Nat.zero_le _⟩ (fun H locs hP hD hS => ?_)
  refine lv_istore_n (lv' := [(1, .int q_1), (0, .ref (a 0))]) hx hb d_Md_doOrder_4 rfl hl (by decide) rfl (fun ls hl => ?_)
  refine lv_aload_n hx hb d_Md_doOrder_5 rfl (lv_at hl 1 rfl) ?_
  refine lv_dup hx hb d_Md_doOrder_6 rfl ?_
  refine va_get (D := G.1) (ci := 9) (v := .int v.2.2.2.2.2.2.2.2) (C := R_Md) (T := T_Md) (N := 9) hx hb hts in_Md hown hK hP 0 rfl rfl 8 (by decide) (hts _ k_761) (fun _ h9 => h9) rfl d_Md_doOrder_7 ?_
  refine lv_iconst (v := (1 : Int32)) hx hb d_Md_doOrder_10 (by decide) ?_
  refine lv_iadd hx hb d_Md_doOrder_11 ?_
  refine va_put (D := G.1) (ci := 9) (v := .int (v.2.2.2.2.2.2.2.2 + (1 : Int32))) (ty := .int) (C := R_Md) (T := T_Md) (N := 9) hx hb hts in_Md ty_Md ty_Md_ok nm_Md hown hK hP hD hS 0 rfl rfl 8 (by decide) (hts _ k_761) (fun _ h9 => h9) rfl (ty_Md_ok 8 (by decide)) rfl rfl (Nat.le_of_ble_eq_true rfl) d_Md_doOrder_12 (fun H locs hP hD hS => ?_)
  have hP : va_P G.1 vwCl (W_Md G a (v.1, v.2.1, v.2.2.1, v.2.2.2.1, v.2.2.2.2.1, v.2.2.2.2.2.1, v.2.2.2.2.2.2.1, v.2.2.2.2.2.2.2.1, (v.2.2.2.2.2.2.2.2 + (1 : Int32)))) H := hP
  have hD : va_D A (W_Md G a (v.1, v.2.1, v.2.2.1, v.2.2.2.1, v.2.2.2.2.1, v.2.2.2.2.2.1, v.2.2.2.2.2.2.1, v.2.2.2.2.2.2.2.1, (v.2.2.2.2.2.2.2.2 + (1 : Int32)))) := hD
  refine lv_iload_n hx hb d_Md_doOrder_15 rfl (lv_at hl 0 rfl) ?_
  refine lv_bipush (v := (98 : Int32)) hx hb d_Md_doOrder_16 (by decide) ?_
  refine lv_icmp_eq (tgt := 27) hx hb d_Md_doOrder_18 (by decide) (fun c_18 => ?_) (fun c_18 => ?_)
  · replace hf := ob_et c_18 hf
    refine lv_iconst (v := (0 : Int32)) hx hb d_Md_doOrder_27 (by decide) ?_
    refine lv_goto (tgt := 52) hx hb d_Md_doOrder_28 (by decide) ?_
    exact J_52 q_1 (0 : Int32) (v.1, v.2.1, v.2.2.1, v.2.2.2.1, v.2.2.2.2.1, v.2.2.2.2.2.1, v.2.2.2.2.2.2.1, v.2.2.2.2.2.2.2.1, (v.2.2.2.2.2.2.2.2 + (1 : Int32))) _ _ ls hP hD hS (lv_sub hl [1, 0] rfl) hf
  · replace hf := ob_ef c_18 hf
    refine lv_iload_n hx hb d_Md_doOrder_21 rfl (lv_at hl 0 rfl) ?_
    refine lv_bipush (v := (120 : Int32)) hx hb d_Md_doOrder_22 (by decide) ?_
    refine lv_icmp_ne (tgt := 31) hx hb d_Md_doOrder_24 (by decide) (fun c_24 => ?_) (fun c_24 => ?_)
    · replace hf := ob_ef c_24 hf
      refine lv_iload_n hx hb d_Md_doOrder_31 rfl (lv_at hl 0 rfl) ?_
      refine lv_bipush (v := (112 : Int32)) hx hb d_Md_doOrder_32 (by decide) ?_
      refine lv_icmp_ne (tgt := 48) hx hb d_Md_doOrder_34 (by decide) (fun c_34 => ?_) (fun c_34 => ?_)
      · replace hf := ob_ef c_34 hf
        refine lv_aload_n hx hb d_Md_doOrder_48 rfl (lv_at hl 1 rfl) ?_
        obtain ⟨q_49, hc_49, hf⟩ := oc_e hf
        refine kcV (cc := c_Md_doOrder) (own := "FloodDiaryModel") (index := 193) (wc := W_Md G a (v.1, v.2.1, v.2.2.1, v.2.2.2.1, v.2.2.2.2.1, v.2.2.2.2.2.1, v.2.2.2.2.2.2.1, v.2.2.2.2.2.2.2.1, (v.2.2.2.2.2.2.2.2 + (1 : Int32)))) (wr := ([] : va_W)) (wc' := W_Md G a q_49.2) (ws' := W_Md G a q_49.2) hx hb hml hown hts hK hN hA hP hD hS (t_Md_number l G a (v.1, v.2.1, v.2.2.1, v.2.2.2.1, v.2.2.2.2.1, v.2.2.2.2.2.1, v.2.2.2.2.2.2.1, v.2.2.2.2.2.2.2.1, (v.2.2.2.2.2.2.2.2 + (1 : Int32))) q_49 hc_49) m_Md_number k_1001 ⟨Nat.le_of_ble_eq_true rfl, Nat.le_of_ble_eq_true rfl⟩ (pm_0 (W_Md G a (v.1, v.2.1, v.2.2.1, v.2.2.2.1, v.2.2.2.2.1, v.2.2.2.2.2.1, v.2.2.2.2.2.2.1, v.2.2.2.2.2.2.2.1, (v.2.2.2.2.2.2.2.2 + (1 : Int32))))) (pm_0 (W_Md G a q_49.2)).symm 9 0 rfl rfl rfl rfl rfl (Nat.le_of_ble_eq_true rfl) hl.1 d_Md_doOrder_49 ⟨Nat.zero_le _, Nat.zero_le _⟩ (fun H locs hP hD hS => ?_)
        exact J_52 q_1 q_49.1 q_49.2 _ _ ls hP hD hS (lv_sub hl [1, 0] rfl) hf
      · replace hf := ob_et c_34 hf
        refine lv_aload_n hx hb d_Md_doOrder_37 rfl (lv_at hl 1 rfl) ?_
        refine lv_bipush (v := (48 : Int32)) hx hb d_Md_doOrder_38 (by decide) ?_
        refine lv_bipush (v := (55 : Int32)) hx hb d_Md_doOrder_40 (by decide) ?_
        obtain ⟨q_42, hc_42, hf⟩ := oc_e hf
        refine kcV (cc := c_Md_doOrder) (own := "FloodDiaryModel") (index := 185) (wc := W_Md G a (v.1, v.2.1, v.2.2.1, v.2.2.2.1, v.2.2.2.2.1, v.2.2.2.2.2.1, v.2.2.2.2.2.2.1, v.2.2.2.2.2.2.2.1, (v.2.2.2.2.2.2.2.2 + (1 : Int32)))) (wr := ([] : va_W)) (wc' := W_Md G a q_42.2) (ws' := W_Md G a q_42.2) hx hb hml hown hts hK hN hA hP hD hS (t_Md_taken l G a (48 : Int32) (55 : Int32) (v.1, v.2.1, v.2.2.1, v.2.2.2.1, v.2.2.2.2.1, v.2.2.2.2.2.1, v.2.2.2.2.2.2.1, v.2.2.2.2.2.2.2.1, (v.2.2.2.2.2.2.2.2 + (1 : Int32))) q_42 hc_42) m_Md_taken k_997 ⟨Nat.le_of_ble_eq_true rfl, Nat.le_of_ble_eq_true rfl⟩ (pm_0 (W_Md G a (v.1, v.2.1, v.2.2.1, v.2.2.2.1, v.2.2.2.2.1, v.2.2.2.2.2.1, v.2.2.2.2.2.2.1, v.2.2.2.2.2.2.2.1, (v.2.2.2.2.2.2.2.2 + (1 : Int32))))) (pm_0 (W_Md G a q_42.2)).symm 9 0 rfl rfl rfl rfl rfl (Nat.le_of_ble_eq_true rfl) hl.1 d_Md_doOrder_42 ⟨Nat.zero_le _, Nat.zero_le _⟩ (fun H locs hP hD hS => ?_)
        refine lv_goto (tgt := 52) hx hb d_Md_doOrder_45 (by decide) ?_
        exact J_52 q_1 q_42.1 q_42.2 _ _ ls hP hD hS (lv_sub hl [1, 0] rfl) hf
    · replace hf := ob_et c_24 hf
      refine lv_iconst (v := (0 : Int32)) hx hb d_Md_doOrder_27 (by decide) ?_
      refine lv_goto (tgt := 52) hx hb d_Md_doOrder_28 (by decide) ?_
      exact J_52 q_1 (0 : Int32) (v.1, v.2.1, v.2.2.1, v.2.2.2.1, v.2.2.2.2.1, v.2.2.2.2.2.1, v.2.2.2.2.2.2.1, v.2.2.2.2.2.2.2.1, (v.2.2.2.2.2.2.2.2 + (1 : Int32))) _ _ ls hP hD hS (lv_sub hl [1, 0] rfl) hf
set_option maxHeartbeats 4000000 in
set_option maxRecDepth 100000 in
theorem t_Md_carryOut (l : Launch) (G : GG) (a : Nat → Nat) (v : V_Md) (q : Int32 × V_Md) (hf : f_Md_carryOut v = some q) : MI l G y_Md_carryOut c_Md_carryOut 3 (some .int) (rmk 7 164) (W_Md G a v) [.ref (a 0)] (W_Md G a q.2) (q.1) := by
  refine ofI "FloodDiaryModel" (by decide +kernel) rfl (Nat.le_of_ble_eq_true rfl) (fun p e s m args below meth c A ls hx hb hr hml hown hts hlk hK hN hA hP hD hS hl => ?_)
  have hl : lv_has ls 3 [(0, .ref (a 0))] := hl
  have J_25 : ∀ (n_25 : Nat) (l1 : Int32) (l2 : Int32) (v : V_Md) (H : Heap) (locs : List Loc) (ls : Array Slot), va_P G.1 vwCl (W_Md G a v) H → va_D A (W_Md G a v) → va_S A s.heap H locs → lv_has ls 3 [(0, .ref (a 0)), (1, .int l1), (2, .int l2)] → f_Md_carryOut_25 n_25 l1 l2 v = some q → W p l e (rmk 7 164) s m args below meth c H locs 0 0 (MQ below (qI G A (W_Md G a q.2) (q.1)) args s 0 0 A) (F0 m 25 ls []) := by
    intro n_25
    induction n_25 with
    | zero => intro l1 l2 v H locs ls hP hD hS hl hf; exact absurd hf (by unfold f_Md_carryOut_25; exact fun z => by cases z)
    | succ n_25 ih_25 =>
      intro l1 l2 v H locs ls hP hD hS hl hf
      rw [f_Md_carryOut_25] at hf
      refine lv_iload_n hx hb d_Md_carryOut_25 rfl (lv_at hl 2 rfl) ?_
      refine lv_if_eq (tgt := 61) hx hb d_Md_carryOut_26 (by decide) (fun c_26 => ?_) (fun c_26 => ?_)
      · replace hf := ob_et c_26 hf
        refine lv_aload_n hx hb d_Md_carryOut_61 rfl (lv_at hl 0 rfl) ?_
        refine lv_iconst (v := (0 : Int32)) hx hb d_Md_carryOut_62 (by decide) ?_
        refine va_put (D := G.1) (ci := 9) (v := .int (0 : Int32)) (ty := .int) (C := R_Md) (T := T_Md) (N := 9) hx hb hts in_Md ty_Md ty_Md_ok nm_Md hown hK hP hD hS 0 rfl rfl 7 (by decide) (hts _ k_760) (fun _ h9 => h9) rfl (ty_Md_ok 7 (by decide)) rfl rfl (Nat.le_of_ble_eq_true rfl) d_Md_carryOut_63 (fun H locs hP hD hS => ?_)
        have hP : va_P G.1 vwCl (W_Md G a (v.1, v.2.1, v.2.2.1, v.2.2.2.1, v.2.2.2.2.1, v.2.2.2.2.2.1, v.2.2.2.2.2.2.1, (0 : Int32), v.2.2.2.2.2.2.2.2)) H := hP
        have hD : va_D A (W_Md G a (v.1, v.2.1, v.2.2.1, v.2.2.2.1, v.2.2.2.2.1, v.2.2.2.2.2.1, v.2.2.2.2.2.2.1, (0 : Int32), v.2.2.2.2.2.2.2.2)) := hD
        refine lv_iload_n hx hb d_Md_carryOut_66 rfl (lv_at hl 1 rfl) ?_
        cases hf
        exact kI hx hb hr hlk hP hD hS d_Md_carryOut_67
      · replace hf := ob_ef c_26 hf
        refine lv_aload_n hx hb d_Md_carryOut_29 rfl (lv_at hl 0 rfl) ?_
        obtain ⟨q_30, hc_30, hf⟩ := oc_e hf
        refine kcV (cc := c_Md_carryOut) (own := "FloodDiaryModel") (index := 203) (wc := W_Md G a v) (wr := ([] : va_W)) (wc' := W_Md G a q_30.2) (ws' := W_Md G a q_30.2) hx hb hml hown hts hK hN hA hP hD hS (t_Md_doOrder l G a v q_30 hc_30) m_Md_doOrder k_1012 ⟨Nat.le_of_ble_eq_true rfl, Nat.le_of_ble_eq_true rfl⟩ (pm_0 (W_Md G a v)) (pm_0 (W_Md G a q_30.2)).symm 9 0 rfl rfl rfl rfl rfl (Nat.le_of_ble_eq_true rfl) hl.1 d_Md_carryOut_30 ⟨Nat.zero_le _, Nat.zero_le _⟩ (fun H locs hP hD hS => ?_)
        refine lv_if_eq (tgt := 61) hx hb d_Md_carryOut_33 (by decide) (fun c_33 => ?_) (fun c_33 => ?_)
        · replace hf := ob_et c_33 hf
          refine lv_aload_n hx hb d_Md_carryOut_61 rfl (lv_at hl 0 rfl) ?_
          refine lv_iconst (v := (0 : Int32)) hx hb d_Md_carryOut_62 (by decide) ?_
          refine va_put (D := G.1) (ci := 9) (v := .int (0 : Int32)) (ty := .int) (C := R_Md) (T := T_Md) (N := 9) hx hb hts in_Md ty_Md ty_Md_ok nm_Md hown hK hP hD hS 0 rfl rfl 7 (by decide) (hts _ k_760) (fun _ h9 => h9) rfl (ty_Md_ok 7 (by decide)) rfl rfl (Nat.le_of_ble_eq_true rfl) d_Md_carryOut_63 (fun H locs hP hD hS => ?_)
          have hP : va_P G.1 vwCl (W_Md G a (q_30.2.1, q_30.2.2.1, q_30.2.2.2.1, q_30.2.2.2.2.1, q_30.2.2.2.2.2.1, q_30.2.2.2.2.2.2.1, q_30.2.2.2.2.2.2.2.1, (0 : Int32), q_30.2.2.2.2.2.2.2.2.2)) H := hP
          have hD : va_D A (W_Md G a (q_30.2.1, q_30.2.2.1, q_30.2.2.2.1, q_30.2.2.2.2.1, q_30.2.2.2.2.2.1, q_30.2.2.2.2.2.2.1, q_30.2.2.2.2.2.2.2.1, (0 : Int32), q_30.2.2.2.2.2.2.2.2.2)) := hD
          refine lv_iload_n hx hb d_Md_carryOut_66 rfl (lv_at hl 1 rfl) ?_
          cases hf
          exact kI hx hb hr hlk hP hD hS d_Md_carryOut_67
        · replace hf := ob_ef c_33 hf
          refine lv_iinc (v := (l1 + (1 : Int32))) (lv' := [(1, .int (l1 + (1 : Int32))), (0, .ref (a 0)), (2, .int l2)]) hx hb d_Md_carryOut_36 hl (k := 1) rfl rfl (by decide) rfl (fun ls hl => ?_)
          refine lv_aload_n hx hb d_Md_carryOut_39 rfl (lv_at hl 1 rfl) ?_
          refine lv_bipush (v := (59 : Int32)) hx hb d_Md_carryOut_40 (by decide) ?_
          refine lv_bipush (v := (59 : Int32)) hx hb d_Md_carryOut_42 (by decide) ?_
          obtain ⟨q_44, hc_44, hf⟩ := oc_e hf
          refine kcV (cc := c_Md_carryOut) (own := "FloodDiaryModel") (index := 185) (wc := W_Md G a q_30.2) (wr := ([] : va_W)) (wc' := W_Md G a q_44.2) (ws' := W_Md G a q_44.2) hx hb hml hown hts hK hN hA hP hD hS (t_Md_taken l G a (59 : Int32) (59 : Int32) q_30.2 q_44 hc_44) m_Md_taken k_997 ⟨Nat.le_of_ble_eq_true rfl, Nat.le_of_ble_eq_true rfl⟩ (pm_0 (W_Md G a q_30.2)) (pm_0 (W_Md G a q_44.2)).symm 9 0 rfl rfl rfl rfl rfl (Nat.le_of_ble_eq_true rfl) hl.1 d_Md_carryOut_44 ⟨Nat.zero_le _, Nat.zero_le _⟩ (fun H locs hP hD hS => ?_)
          refine lv_bipush (v := (-6 : Int32)) hx hb d_Md_carryOut_47 (by decide) ?_
          refine lv_icmp_eq (tgt := 56) hx hb d_Md_carryOut_49 (by decide) (fun c_49 => ?_) (fun c_49 => ?_)
          · replace hf := ob_et c_49 hf
            refine lv_iconst (v := (0 : Int32)) hx hb d_Md_carryOut_56 (by decide) ?_
            refine lv_istore_n (lv' := [(2, .int (0 : Int32)), (1, .int (l1 + (1 : Int32))), (0, .ref (a 0))]) hx hb d_Md_carryOut_57 rfl hl (by decide) rfl (fun ls hl => ?_)
            refine lv_goto (tgt := 25) hx hb d_Md_carryOut_58 (by decide) ?_
            exact ih_25 (l1 + (1 : Int32)) (0 : Int32) q_44.2 _ _ ls hP hD hS (lv_sub hl [2, 1, 0] rfl) hf
          · replace hf := ob_ef c_49 hf
            refine lv_iconst (v := (1 : Int32)) hx hb d_Md_carryOut_52 (by decide) ?_
            refine lv_goto (tgt := 57) hx hb d_Md_carryOut_53 (by decide) ?_
            refine lv_istore_n (lv' := [(2, .int (1 : Int32)), (1, .int (l1 + (1 : Int32))), (0, .ref (a 0))]) hx hb d_Md_carryOut_57 rfl hl (by decide) rfl (fun ls hl => ?_)
            refine lv_goto (tgt := 25) hx hb d_Md_carryOut_58 (by decide) ?_
            exact ih_25 (l1 + (1 : Int32)) (1 : Int32) q_44.2 _ _ ls hP hD hS (lv_sub hl [2, 1, 0] rfl) hf
  unfold f_Md_carryOut at hf
  refine lv_aload_n hx hb d_Md_carryOut_0 rfl (lv_at hl 0 rfl) ?_
  obtain ⟨q_1, hc_1, hf⟩ := oc_e hf
  refine kcV (cc := c_Md_carryOut) (own := "FloodDiaryModel") (index := 200) (wc := W_Md G a v) (wr := ([] : va_W)) (wc' := W_Md G a q_1.2) (ws' := W_Md G a q_1.2) hx hb hml hown hts hK hN hA hP hD hS (t_Md_fault l G a v q_1 hc_1) m_Md_fault k_1011 ⟨Nat.le_of_ble_eq_true rfl, Nat.le_of_ble_eq_true rfl⟩ (pm_0 (W_Md G a v)) (pm_0 (W_Md G a q_1.2)).symm 9 0 rfl rfl rfl rfl rfl (Nat.le_of_ble_eq_true rfl) hl.1 d_Md_carryOut_1 ⟨Nat.zero_le _, Nat.zero_le _⟩ (fun H locs hP hD hS => ?_)
  refine lv_bipush (v := (-6 : Int32)) hx hb d_Md_carryOut_4 (by decide) ?_
  refine lv_icmp_eq (tgt := 12) hx hb d_Md_carryOut_6 (by decide) (fun c_6 => ?_) (fun c_6 => ?_)
  · replace hf := ob_et c_6 hf
    refine lv_aload_n hx hb d_Md_carryOut_12 rfl (lv_at hl 0 rfl) ?_
    obtain ⟨q_13, hc_13, hf⟩ := oc_e hf
    refine kcVv (cc := c_Md_carryOut) (own := "FloodDiaryModel") (index := 93) (wc := W_Md G a q_1.2) (wr := ([] : va_W)) (wc' := W_Md G a q_13) (ws' := W_Md G a q_13) hx hb hml hown hts hK hN hA hP hD hS (t_Md_record l G a q_1.2 q_13 hc_13) m_Md_record k_789 ⟨Nat.le_of_ble_eq_true rfl, Nat.le_of_ble_eq_true rfl⟩ (pm_0 (W_Md G a q_1.2)) (pm_0 (W_Md G a q_13)).symm 9 0 rfl rfl rfl rfl rfl (Nat.le_of_ble_eq_true rfl) hl.1 d_Md_carryOut_13 ⟨Nat.zero_le _, Nat.zero_le _⟩ (fun H locs hP hD hS => ?_)
    refine lv_aload_n hx hb d_Md_carryOut_16 rfl (lv_at hl 0 rfl) ?_
    refine lv_iconst (v := (0 : Int32)) hx hb d_Md_carryOut_17 (by decide) ?_
    refine va_put (D := G.1) (ci := 9) (v := .int (0 : Int32)) (ty := .int) (C := R_Md) (T := T_Md) (N := 9) hx hb hts in_Md ty_Md ty_Md_ok nm_Md hown hK hP hD hS 0 rfl rfl 8 (by decide) (hts _ k_761) (fun _ h9 => h9) rfl (ty_Md_ok 8 (by decide)) rfl rfl (Nat.le_of_ble_eq_true rfl) d_Md_carryOut_18 (fun H locs hP hD hS => ?_)
    have hP : va_P G.1 vwCl (W_Md G a (q_13.1, q_13.2.1, q_13.2.2.1, q_13.2.2.2.1, q_13.2.2.2.2.1, q_13.2.2.2.2.2.1, q_13.2.2.2.2.2.2.1, q_13.2.2.2.2.2.2.2.1, (0 : Int32))) H := hP
    have hD : va_D A (W_Md G a (q_13.1, q_13.2.1, q_13.2.2.1, q_13.2.2.2.1, q_13.2.2.2.2.1, q_13.2.2.2.2.2.1, q_13.2.2.2.2.2.2.1, q_13.2.2.2.2.2.2.2.1, (0 : Int32))) := hD
    refine lv_iconst (v := (0 : Int32)) hx hb d_Md_carryOut_21 (by decide) ?_
    refine lv_istore_n (lv' := [(1, .int (0 : Int32)), (0, .ref (a 0))]) hx hb d_Md_carryOut_22 rfl hl (by decide) rfl (fun ls hl => ?_)
    refine lv_iconst (v := (1 : Int32)) hx hb d_Md_carryOut_23 (by decide) ?_
    refine lv_istore_n (lv' := [(2, .int (1 : Int32)), (1, .int (0 : Int32)), (0, .ref (a 0))]) hx hb d_Md_carryOut_24 rfl hl (by decide) rfl (fun ls hl => ?_)
    exact J_25 FU (0 : Int32) (1 : Int32) (q_13.1, q_13.2.1, q_13.2.2.1, q_13.2.2.2.1, q_13.2.2.2.2.1, q_13.2.2.2.2.2.1, q_13.2.2.2.2.2.2.1, q_13.2.2.2.2.2.2.2.1, (0 : Int32)) _ _ ls hP hD hS (lv_sub hl [2, 1, 0] rfl) hf
  · replace hf := ob_ef c_6 hf
    refine lv_bipush (v := (-3 : Int32)) hx hb d_Md_carryOut_9 (by decide) ?_
    cases hf
    exact kI hx hb hr hlk hP hD hS d_Md_carryOut_11
theorem pm_15 (x0 x1 x2 x3 x4 x5 x6 : va_W) : List.Perm (x0 ++ (x1 ++ (x2 ++ (x3 ++ (x4 ++ (x5 ++ (x6 ++ (([] : va_W))))))))) ((x3 ++ x1) ++ (x0 ++ (x2 ++ (x4 ++ (x5 ++ (x6 ++ (([] : va_W)))))))) := prm (fun d z => by first | (simp only [List.count_append, List.count_nil]; omega) | simp only [List.count_append, List.count_nil])
set_option maxHeartbeats 4000000 in
set_option maxRecDepth 100000 in
theorem t_Md_undo (l : Launch) (G : GG) (a : Nat → Nat) (v : V_Md) (q : Int32 × V_Md) (hf : f_Md_undo v = some q) : MI l G y_Md_undo c_Md_undo 1 (some .int) (rmk 1 24) (W_Md G a v) [.ref (a 0)] (W_Md G a q.2) (q.1) := by
  refine ofI "FloodDiaryModel" (by decide +kernel) rfl (Nat.le_of_ble_eq_true rfl) (fun p e s m args below meth c A ls hx hb hr hml hown hts hlk hK hN hA hP hD hS hl => ?_)
  have hl : lv_has ls 1 [(0, .ref (a 0))] := hl
  unfold f_Md_undo at hf
  refine lv_aload_n hx hb d_Md_undo_0 rfl (lv_at hl 0 rfl) ?_
  refine va_get (D := G.1) (ci := 9) (v := .int v.2.2.2.1) (C := R_Md) (T := T_Md) (N := 9) hx hb hts in_Md hown hK hP 0 rfl rfl 3 (by decide) (hts _ k_756) (fun _ h9 => h9) rfl d_Md_undo_1 ?_
  refine lv_if_ne (tgt := 10) hx hb d_Md_undo_4 (by decide) (fun c_4 => ?_) (fun c_4 => ?_)
  · replace hf := ob_ef c_4 hf
    refine lv_aload_n hx hb d_Md_undo_10 rfl (lv_at hl 0 rfl) ?_
    refine lv_dup hx hb d_Md_undo_11 rfl ?_
    refine va_get (D := G.1) (ci := 9) (v := .int v.2.2.2.1) (C := R_Md) (T := T_Md) (N := 9) hx hb hts in_Md hown hK hP 0 rfl rfl 3 (by decide) (hts _ k_756) (fun _ h9 => h9) rfl d_Md_undo_12 ?_
    refine lv_iconst (v := (1 : Int32)) hx hb d_Md_undo_15 (by decide) ?_
    refine lv_isub hx hb d_Md_undo_16 ?_
    refine va_put (D := G.1) (ci := 9) (v := .int (v.2.2.2.1 - (1 : Int32))) (ty := .int) (C := R_Md) (T := T_Md) (N := 9) hx hb hts in_Md ty_Md ty_Md_ok nm_Md hown hK hP hD hS 0 rfl rfl 3 (by decide) (hts _ k_756) (fun _ h9 => h9) rfl (ty_Md_ok 3 (by decide)) rfl rfl (Nat.le_of_ble_eq_true rfl) d_Md_undo_17 (fun H locs hP hD hS => ?_)
    have hP : va_P G.1 vwCl (W_Md G a (v.1, v.2.1, v.2.2.1, (v.2.2.2.1 - (1 : Int32)), v.2.2.2.2.1, v.2.2.2.2.2.1, v.2.2.2.2.2.2.1, v.2.2.2.2.2.2.2.1, v.2.2.2.2.2.2.2.2)) H := hP
    have hD : va_D A (W_Md G a (v.1, v.2.1, v.2.2.1, (v.2.2.2.1 - (1 : Int32)), v.2.2.2.2.1, v.2.2.2.2.2.1, v.2.2.2.2.2.2.1, v.2.2.2.2.2.2.2.1, v.2.2.2.2.2.2.2.2)) := hD
    refine lv_aload_n hx hb d_Md_undo_20 rfl (lv_at hl 0 rfl) ?_
    refine va_get (D := G.1) (ci := 9) (v := .ref (a 3)) (C := R_Md) (T := T_Md) (N := 9) hx hb hts in_Md hown hK hP 0 rfl rfl 2 (by decide) (hts _ k_755) (fun _ h9 => h9) rfl d_Md_undo_21 ?_
    refine lv_sipush (v := (2400 : Int32)) hx hb d_Md_undo_24 (by decide) ?_
    refine lv_aload_n hx hb d_Md_undo_27 rfl (lv_at hl 0 rfl) ?_
    refine va_get (D := G.1) (ci := 9) (v := .int (v.2.2.2.1 - (1 : Int32))) (C := R_Md) (T := T_Md) (N := 9) hx hb hts in_Md hown hK hP 0 rfl rfl 3 (by decide) (hts _ k_756) (fun _ h9 => h9) rfl d_Md_undo_28 ?_
    refine lv_imul hx hb d_Md_undo_31 ?_
    refine lv_aload_n hx hb d_Md_undo_32 rfl (lv_at hl 0 rfl) ?_
    refine va_get (D := G.1) (ci := 9) (v := .ref (a 1)) (C := R_Md) (T := T_Md) (N := 9) hx hb hts in_Md hown hK hP 0 rfl rfl 0 (by decide) (hts _ k_753) (fun _ h9 => h9) rfl d_Md_undo_33 ?_
    refine lv_iconst (v := (0 : Int32)) hx hb d_Md_undo_36 (by decide) ?_
    obtain ⟨q_37, hc_37, hf⟩ := oc_e hf
    refine kcSv (cc := c_Md_undo) (own := "FloodDiaryModel") (index := 86) (wc := W_Row G 14400 (a 3) v.2.2.1 ++ W_Row G 2400 (a 1) v.1) (wr := O_Md G a (v.1, v.2.1, v.2.2.1, (v.2.2.2.1 - (1 : Int32)), v.2.2.2.2.1, v.2.2.2.2.2.1, v.2.2.2.2.2.2.1, v.2.2.2.2.2.2.2.1, v.2.2.2.2.2.2.2.2) ++ (W_Row G 2400 (a 2) v.2.1 ++ (W_Row G 4800 (a 4) v.2.2.2.2.1 ++ (W_RowZ G 2 (a 5) v.2.2.2.2.2.1 ++ (W_Row G 80 (a 6) v.2.2.2.2.2.2.1 ++ (([] : va_W))))))) (wc' := W_Row G 14400 (a 3) v.2.2.1 ++ W_Row G 2400 (a 1) q_37) (ws' := W_Md G a (q_37, v.2.1, v.2.2.1, (v.2.2.2.1 - (1 : Int32)), v.2.2.2.2.1, v.2.2.2.2.2.1, v.2.2.2.2.2.2.1, v.2.2.2.2.2.2.2.1, v.2.2.2.2.2.2.2.2)) hx hb hml hown hts hK hN hA hP hD hS (t_Md_copyState l G (a 3) (a 1) 14400 2400 ((2400 : Int32) * (v.2.2.2.1 - (1 : Int32))) (0 : Int32) v.2.2.1 v.1 q_37 hc_37) m_Md_copyState k_793 ⟨Nat.le_of_ble_eq_true rfl, Nat.le_of_ble_eq_true rfl⟩ (pm_15 (O_Md G a (v.1, v.2.1, v.2.2.1, (v.2.2.2.1 - (1 : Int32)), v.2.2.2.2.1, v.2.2.2.2.2.1, v.2.2.2.2.2.2.1, v.2.2.2.2.2.2.2.1, v.2.2.2.2.2.2.2.2)) (W_Row G 2400 (a 1) v.1) (W_Row G 2400 (a 2) v.2.1) (W_Row G 14400 (a 3) v.2.2.1) (W_Row G 4800 (a 4) v.2.2.2.2.1) (W_RowZ G 2 (a 5) v.2.2.2.2.2.1) (W_Row G 80 (a 6) v.2.2.2.2.2.2.1)) (pm_15 (O_Md G a (q_37, v.2.1, v.2.2.1, (v.2.2.2.1 - (1 : Int32)), v.2.2.2.2.1, v.2.2.2.2.2.1, v.2.2.2.2.2.2.1, v.2.2.2.2.2.2.2.1, v.2.2.2.2.2.2.2.2)) (W_Row G 2400 (a 1) q_37) (W_Row G 2400 (a 2) v.2.1) (W_Row G 14400 (a 3) v.2.2.1) (W_Row G 4800 (a 4) v.2.2.2.2.1) (W_RowZ G 2 (a 5) v.2.2.2.2.2.1) (W_Row G 80 (a 6) v.2.2.2.2.2.2.1)).symm rfl rfl (Nat.le_of_ble_eq_true rfl) hl.1 d_Md_undo_37 ⟨Nat.zero_le _, Nat.zero_le _⟩ (fun H locs hP hD hS => ?_)
    refine lv_aload_n hx hb d_Md_undo_40 rfl (lv_at hl 0 rfl) ?_
    refine va_get (D := G.1) (ci := 9) (v := .int (v.2.2.2.1 - (1 : Int32))) (C := R_Md) (T := T_Md) (N := 9) hx hb hts in_Md hown hK hP 0 rfl rfl 3 (by decide) (hts _ k_756) (fun _ h9 => h9) rfl d_Md_undo_41 ?_
    cases hf
    exact kI hx hb hr hlk hP hD hS d_Md_undo_44
  · replace hf := ob_et c_4 hf
    refine lv_bipush (v := (-5 : Int32)) hx hb d_Md_undo_7 (by decide) ?_
    cases hf
    exact kI hx hb hr hlk hP hD hS d_Md_undo_9
theorem pm_16 (x0 x1 x2 x3 x4 x5 x6 : va_W) : List.Perm (x0 ++ (x1 ++ (x2 ++ (x3 ++ (x4 ++ (x5 ++ (x6 ++ (([] : va_W))))))))) ((x1 ++ x4) ++ (x0 ++ (x2 ++ (x3 ++ (x5 ++ (x6 ++ (([] : va_W)))))))) := prm (fun d z => by first | (simp only [List.count_append, List.count_nil]; omega) | simp only [List.count_append, List.count_nil])
set_option maxHeartbeats 4000000 in
set_option maxRecDepth 100000 in
theorem t_Md_keep (l : Launch) (G : GG) (a : Nat → Nat) (l1 : Int32) (v : V_Md) (q : Int32 × V_Md) (hf : f_Md_keep l1 v = some q) : MI l G y_Md_keep c_Md_keep 2 (some .int) (rmk 1 25) (W_Md G a v) [.ref (a 0), .int l1] (W_Md G a q.2) (q.1) := by
  refine ofI "FloodDiaryModel" (by decide +kernel) rfl (Nat.le_of_ble_eq_true rfl) (fun p e s m args below meth c A ls hx hb hr hml hown hts hlk hK hN hA hP hD hS hl => ?_)
  have hl : lv_has ls 2 [(0, .ref (a 0)), (1, .int l1)] := hl
  unfold f_Md_keep at hf
  refine lv_iload_n hx hb d_Md_keep_0 rfl (lv_at hl 1 rfl) ?_
  refine lv_i2l (v := l1.toInt64) hx hb d_Md_keep_1 rfl ?_
  refine lv_lconst (v := (0 : Int64)) hx hb d_Md_keep_2 (by decide) ?_
  refine lv_lconst (v := (1 : Int64)) hx hb d_Md_keep_3 (by decide) ?_
  obtain ⟨q_4, hc_4, hf⟩ := oc_e hf
  refine kcS (cc := c_Md_keep) (own := "FloodDiaryModel") (index := 35) (wc := ([] : va_W)) (wr := W_Md G a v) (wc' := ([] : va_W)) (ws' := W_Md G a v) hx hb hml hown hts hK hN hA hP hD hS (t_Md_in l G l1.toInt64 (0 : Int64) (1 : Int64) q_4 hc_4) m_Md_in k_818 ⟨Nat.le_of_ble_eq_true rfl, Nat.le_of_ble_eq_true rfl⟩ (List.Perm.refl _) (List.Perm.refl _) rfl rfl (Nat.le_of_ble_eq_true rfl) hl.1 d_Md_keep_4 ⟨Nat.zero_le _, Nat.zero_le _⟩ (fun H locs hP hD hS => ?_)
  refine lv_if_ne (tgt := 13) hx hb d_Md_keep_7 (by decide) (fun c_7 => ?_) (fun c_7 => ?_)
  · replace hf := ob_ef c_7 hf
    refine lv_aload_n hx hb d_Md_keep_13 rfl (lv_at hl 0 rfl) ?_
    refine va_get (D := G.1) (ci := 9) (v := .ref (a 1)) (C := R_Md) (T := T_Md) (N := 9) hx hb hts in_Md hown hK hP 0 rfl rfl 0 (by decide) (hts _ k_753) (fun _ h9 => h9) rfl d_Md_keep_14 ?_
    refine lv_iconst (v := (0 : Int32)) hx hb d_Md_keep_17 (by decide) ?_
    refine lv_aload_n hx hb d_Md_keep_18 rfl (lv_at hl 0 rfl) ?_
    refine va_get (D := G.1) (ci := 9) (v := .ref (a 4)) (C := R_Md) (T := T_Md) (N := 9) hx hb hts in_Md hown hK hP 0 rfl rfl 4 (by decide) (hts _ k_757) (fun _ h9 => h9) rfl d_Md_keep_19 ?_
    refine lv_sipush (v := (2400 : Int32)) hx hb d_Md_keep_22 (by decide) ?_
    refine lv_iload_n hx hb d_Md_keep_25 rfl (lv_at hl 1 rfl) ?_
    refine lv_imul hx hb d_Md_keep_26 ?_
    obtain ⟨q_27, hc_27, hf⟩ := oc_e hf
    refine kcSv (cc := c_Md_keep) (own := "FloodDiaryModel") (index := 86) (wc := W_Row G 2400 (a 1) v.1 ++ W_Row G 4800 (a 4) v.2.2.2.2.1) (wr := O_Md G a v ++ (W_Row G 2400 (a 2) v.2.1 ++ (W_Row G 14400 (a 3) v.2.2.1 ++ (W_RowZ G 2 (a 5) v.2.2.2.2.2.1 ++ (W_Row G 80 (a 6) v.2.2.2.2.2.2.1 ++ (([] : va_W))))))) (wc' := W_Row G 2400 (a 1) v.1 ++ W_Row G 4800 (a 4) q_27) (ws' := W_Md G a (v.1, v.2.1, v.2.2.1, v.2.2.2.1, q_27, v.2.2.2.2.2.1, v.2.2.2.2.2.2.1, v.2.2.2.2.2.2.2.1, v.2.2.2.2.2.2.2.2)) hx hb hml hown hts hK hN hA hP hD hS (t_Md_copyState l G (a 1) (a 4) 2400 4800 (0 : Int32) ((2400 : Int32) * l1) v.1 v.2.2.2.2.1 q_27 hc_27) m_Md_copyState k_793 ⟨Nat.le_of_ble_eq_true rfl, Nat.le_of_ble_eq_true rfl⟩ (pm_16 (O_Md G a v) (W_Row G 2400 (a 1) v.1) (W_Row G 2400 (a 2) v.2.1) (W_Row G 14400 (a 3) v.2.2.1) (W_Row G 4800 (a 4) v.2.2.2.2.1) (W_RowZ G 2 (a 5) v.2.2.2.2.2.1) (W_Row G 80 (a 6) v.2.2.2.2.2.2.1)) (pm_16 (O_Md G a (v.1, v.2.1, v.2.2.1, v.2.2.2.1, q_27, v.2.2.2.2.2.1, v.2.2.2.2.2.2.1, v.2.2.2.2.2.2.2.1, v.2.2.2.2.2.2.2.2)) (W_Row G 2400 (a 1) v.1) (W_Row G 2400 (a 2) v.2.1) (W_Row G 14400 (a 3) v.2.2.1) (W_Row G 4800 (a 4) q_27) (W_RowZ G 2 (a 5) v.2.2.2.2.2.1) (W_Row G 80 (a 6) v.2.2.2.2.2.2.1)).symm rfl rfl (Nat.le_of_ble_eq_true rfl) hl.1 d_Md_keep_27 ⟨Nat.zero_le _, Nat.zero_le _⟩ (fun H locs hP hD hS => ?_)
    refine lv_aload_n hx hb d_Md_keep_30 rfl (lv_at hl 0 rfl) ?_
    refine va_get (D := G.1) (ci := 9) (v := .ref (a 5)) (C := R_Md) (T := T_Md) (N := 9) hx hb hts in_Md hown hK hP 0 rfl rfl 5 (by decide) (hts _ k_758) (fun _ h9 => h9) rfl d_Md_keep_31 ?_
    refine lv_iload_n hx hb d_Md_keep_34 rfl (lv_at hl 1 rfl) ?_
    refine lv_iconst (v := (1 : Int32)) hx hb d_Md_keep_35 (by decide) ?_
    obtain ⟨g_36, hf⟩ := og_e hf
    obtain ⟨r_36, er_36, hf⟩ := nx_e hf
    refine va_zast hx hb hK hP hD hS 5 2 rfl rfl g_36 d_Md_keep_36 (fun H locs hP hD hS => ?_)
    rw [← er_36] at hP hD
    have hP : va_P G.1 vwCl (W_Md G a (v.1, v.2.1, v.2.2.1, v.2.2.2.1, q_27, r_36, v.2.2.2.2.2.2.1, v.2.2.2.2.2.2.2.1, v.2.2.2.2.2.2.2.2)) H := hP
    have hD : va_D A (W_Md G a (v.1, v.2.1, v.2.2.1, v.2.2.2.1, q_27, r_36, v.2.2.2.2.2.2.1, v.2.2.2.2.2.2.2.1, v.2.2.2.2.2.2.2.2)) := hD
    refine lv_aload_n hx hb d_Md_keep_37 rfl (lv_at hl 0 rfl) ?_
    refine va_get (D := G.1) (ci := 9) (v := .ref (a 1)) (C := R_Md) (T := T_Md) (N := 9) hx hb hts in_Md hown hK hP 0 rfl rfl 0 (by decide) (hts _ k_753) (fun _ h9 => h9) rfl d_Md_keep_38 ?_
    refine lv_bipush (v := (57 : Int32)) hx hb d_Md_keep_41 (by decide) ?_
    obtain ⟨g_43, hf⟩ := og_e hf
    refine va_iald hx hb hK hP 1 0 rfl rfl g_43 d_Md_keep_43 ?_
    cases hf
    exact kI hx hb hr hlk hP hD hS d_Md_keep_44
  · replace hf := ob_et c_7 hf
    refine lv_bipush (v := (-2 : Int32)) hx hb d_Md_keep_10 (by decide) ?_
    cases hf
    exact kI hx hb hr hlk hP hD hS d_Md_keep_12
theorem pm_17 (x0 x1 x2 x3 x4 x5 x6 : va_W) : List.Perm (x0 ++ (x1 ++ (x2 ++ (x3 ++ (x4 ++ (x5 ++ (x6 ++ (([] : va_W))))))))) ((x4 ++ x1) ++ (x0 ++ (x2 ++ (x3 ++ (x5 ++ (x6 ++ (([] : va_W)))))))) := prm (fun d z => by first | (simp only [List.count_append, List.count_nil]; omega) | simp only [List.count_append, List.count_nil])
set_option maxHeartbeats 4000000 in
set_option maxRecDepth 100000 in
theorem t_Md_bring (l : Launch) (G : GG) (a : Nat → Nat) (l1 : Int32) (v : V_Md) (q : Int32 × V_Md) (hf : f_Md_bring l1 v = some q) : MI l G y_Md_bring c_Md_bring 2 (some .int) (rmk 2 45) (W_Md G a v) [.ref (a 0), .int l1] (W_Md G a q.2) (q.1) := by
  refine ofI "FloodDiaryModel" (by decide +kernel) rfl (Nat.le_of_ble_eq_true rfl) (fun p e s m args below meth c A ls hx hb hr hml hown hts hlk hK hN hA hP hD hS hl => ?_)
  have hl : lv_has ls 2 [(0, .ref (a 0)), (1, .int l1)] := hl
  unfold f_Md_bring at hf
  refine lv_iload_n hx hb d_Md_bring_0 rfl (lv_at hl 1 rfl) ?_
  refine lv_i2l (v := l1.toInt64) hx hb d_Md_bring_1 rfl ?_
  refine lv_lconst (v := (0 : Int64)) hx hb d_Md_bring_2 (by decide) ?_
  refine lv_lconst (v := (1 : Int64)) hx hb d_Md_bring_3 (by decide) ?_
  obtain ⟨q_4, hc_4, hf⟩ := oc_e hf
  refine kcS (cc := c_Md_bring) (own := "FloodDiaryModel") (index := 35) (wc := ([] : va_W)) (wr := W_Md G a v) (wc' := ([] : va_W)) (ws' := W_Md G a v) hx hb hml hown hts hK hN hA hP hD hS (t_Md_in l G l1.toInt64 (0 : Int64) (1 : Int64) q_4 hc_4) m_Md_in k_818 ⟨Nat.le_of_ble_eq_true rfl, Nat.le_of_ble_eq_true rfl⟩ (List.Perm.refl _) (List.Perm.refl _) rfl rfl (Nat.le_of_ble_eq_true rfl) hl.1 d_Md_bring_4 ⟨Nat.zero_le _, Nat.zero_le _⟩ (fun H locs hP hD hS => ?_)
  refine lv_if_ne (tgt := 13) hx hb d_Md_bring_7 (by decide) (fun c_7 => ?_) (fun c_7 => ?_)
  · replace hf := ob_ef c_7 hf
    refine lv_aload_n hx hb d_Md_bring_13 rfl (lv_at hl 0 rfl) ?_
    refine va_get (D := G.1) (ci := 9) (v := .ref (a 5)) (C := R_Md) (T := T_Md) (N := 9) hx hb hts in_Md hown hK hP 0 rfl rfl 5 (by decide) (hts _ k_758) (fun _ h9 => h9) rfl d_Md_bring_14 ?_
    refine lv_iload_n hx hb d_Md_bring_17 rfl (lv_at hl 1 rfl) ?_
    obtain ⟨g_18, hf⟩ := og_e hf
    refine va_zald hx hb hK hP 5 2 rfl rfl g_18 d_Md_bring_18 ?_
    refine lv_if_ne (tgt := 25) hx hb d_Md_bring_19 (by decide) (fun c_19 => ?_) (fun c_19 => ?_)
    · replace hf := ob_ef c_19 hf
      refine lv_aload_n hx hb d_Md_bring_25 rfl (lv_at hl 0 rfl) ?_
      obtain ⟨q_26, hc_26, hf⟩ := oc_e hf
      refine kcVv (cc := c_Md_bring) (own := "FloodDiaryModel") (index := 93) (wc := W_Md G a v) (wr := ([] : va_W)) (wc' := W_Md G a q_26) (ws' := W_Md G a q_26) hx hb hml hown hts hK hN hA hP hD hS (t_Md_record l G a v q_26 hc_26) m_Md_record k_789 ⟨Nat.le_of_ble_eq_true rfl, Nat.le_of_ble_eq_true rfl⟩ (pm_0 (W_Md G a v)) (pm_0 (W_Md G a q_26)).symm 9 0 rfl rfl rfl rfl rfl (Nat.le_of_ble_eq_true rfl) hl.1 d_Md_bring_26 ⟨Nat.zero_le _, Nat.zero_le _⟩ (fun H locs hP hD hS => ?_)
      refine lv_aload_n hx hb d_Md_bring_29 rfl (lv_at hl 0 rfl) ?_
      refine va_get (D := G.1) (ci := 9) (v := .ref (a 4)) (C := R_Md) (T := T_Md) (N := 9) hx hb hts in_Md hown hK hP 0 rfl rfl 4 (by decide) (hts _ k_757) (fun _ h9 => h9) rfl d_Md_bring_30 ?_
      refine lv_sipush (v := (2400 : Int32)) hx hb d_Md_bring_33 (by decide) ?_
      refine lv_iload_n hx hb d_Md_bring_36 rfl (lv_at hl 1 rfl) ?_
      refine lv_imul hx hb d_Md_bring_37 ?_
      refine lv_aload_n hx hb d_Md_bring_38 rfl (lv_at hl 0 rfl) ?_
      refine va_get (D := G.1) (ci := 9) (v := .ref (a 1)) (C := R_Md) (T := T_Md) (N := 9) hx hb hts in_Md hown hK hP 0 rfl rfl 0 (by decide) (hts _ k_753) (fun _ h9 => h9) rfl d_Md_bring_39 ?_
      refine lv_iconst (v := (0 : Int32)) hx hb d_Md_bring_42 (by decide) ?_
      obtain ⟨q_43, hc_43, hf⟩ := oc_e hf
      refine kcSv (cc := c_Md_bring) (own := "FloodDiaryModel") (index := 86) (wc := W_Row G 4800 (a 4) q_26.2.2.2.2.1 ++ W_Row G 2400 (a 1) q_26.1) (wr := O_Md G a q_26 ++ (W_Row G 2400 (a 2) q_26.2.1 ++ (W_Row G 14400 (a 3) q_26.2.2.1 ++ (W_RowZ G 2 (a 5) q_26.2.2.2.2.2.1 ++ (W_Row G 80 (a 6) q_26.2.2.2.2.2.2.1 ++ (([] : va_W))))))) (wc' := W_Row G 4800 (a 4) q_26.2.2.2.2.1 ++ W_Row G 2400 (a 1) q_43) (ws' := W_Md G a (q_43, q_26.2.1, q_26.2.2.1, q_26.2.2.2.1, q_26.2.2.2.2.1, q_26.2.2.2.2.2.1, q_26.2.2.2.2.2.2.1, q_26.2.2.2.2.2.2.2.1, q_26.2.2.2.2.2.2.2.2)) hx hb hml hown hts hK hN hA hP hD hS (t_Md_copyState l G (a 4) (a 1) 4800 2400 ((2400 : Int32) * l1) (0 : Int32) q_26.2.2.2.2.1 q_26.1 q_43 hc_43) m_Md_copyState k_793 ⟨Nat.le_of_ble_eq_true rfl, Nat.le_of_ble_eq_true rfl⟩ (pm_17 (O_Md G a q_26) (W_Row G 2400 (a 1) q_26.1) (W_Row G 2400 (a 2) q_26.2.1) (W_Row G 14400 (a 3) q_26.2.2.1) (W_Row G 4800 (a 4) q_26.2.2.2.2.1) (W_RowZ G 2 (a 5) q_26.2.2.2.2.2.1) (W_Row G 80 (a 6) q_26.2.2.2.2.2.2.1)) (pm_17 (O_Md G a (q_43, q_26.2.1, q_26.2.2.1, q_26.2.2.2.1, q_26.2.2.2.2.1, q_26.2.2.2.2.2.1, q_26.2.2.2.2.2.2.1, q_26.2.2.2.2.2.2.2.1, q_26.2.2.2.2.2.2.2.2)) (W_Row G 2400 (a 1) q_43) (W_Row G 2400 (a 2) q_26.2.1) (W_Row G 14400 (a 3) q_26.2.2.1) (W_Row G 4800 (a 4) q_26.2.2.2.2.1) (W_RowZ G 2 (a 5) q_26.2.2.2.2.2.1) (W_Row G 80 (a 6) q_26.2.2.2.2.2.2.1)).symm rfl rfl (Nat.le_of_ble_eq_true rfl) hl.1 d_Md_bring_43 ⟨Nat.zero_le _, Nat.zero_le _⟩ (fun H locs hP hD hS => ?_)
      refine lv_aload_n hx hb d_Md_bring_46 rfl (lv_at hl 0 rfl) ?_
      refine va_get (D := G.1) (ci := 9) (v := .ref (a 1)) (C := R_Md) (T := T_Md) (N := 9) hx hb hts in_Md hown hK hP 0 rfl rfl 0 (by decide) (hts _ k_753) (fun _ h9 => h9) rfl d_Md_bring_47 ?_
      refine lv_bipush (v := (57 : Int32)) hx hb d_Md_bring_50 (by decide) ?_
      obtain ⟨g_52, hf⟩ := og_e hf
      refine va_iald hx hb hK hP 1 0 rfl rfl g_52 d_Md_bring_52 ?_
      cases hf
      exact kI hx hb hr hlk hP hD hS d_Md_bring_53
    · replace hf := ob_et c_19 hf
      refine lv_bipush (v := (-5 : Int32)) hx hb d_Md_bring_22 (by decide) ?_
      cases hf
      exact kI hx hb hr hlk hP hD hS d_Md_bring_24
  · replace hf := ob_et c_7 hf
    refine lv_bipush (v := (-2 : Int32)) hx hb d_Md_bring_10 (by decide) ?_
    cases hf
    exact kI hx hb hr hlk hP hD hS d_Md_bring_12
