theorem pm_3 (x0 x1 x2 x3 x4 x5 x6 x7 : va_W) : List.Perm ((x0 ++ (x1 ++ (x2 ++ (x3 ++ (([] : va_W)))))) ++ (x4 ++ (x5 ++ (x6 ++ (x7 ++ (([] : va_W))))))) ((x1 ++ x5) ++ (x0 ++ (x2 ++ (x3 ++ (x4 ++ (x6 ++ (x7 ++ (([] : va_W))))))))) := prm (fun d z => by first | (simp only [List.count_append, List.count_nil]; omega) | simp only [List.count_append, List.count_nil])
theorem pm_4 (x0 x1 x2 x3 x4 x5 x6 x7 : va_W) : List.Perm ((x0 ++ (x1 ++ (x2 ++ (x3 ++ (([] : va_W)))))) ++ (x4 ++ (x5 ++ (x6 ++ (x7 ++ (([] : va_W))))))) ((x2 ++ x6) ++ (x0 ++ (x1 ++ (x3 ++ (x4 ++ (x5 ++ (x7 ++ (([] : va_W))))))))) := prm (fun d z => by first | (simp only [List.count_append, List.count_nil]; omega) | simp only [List.count_append, List.count_nil])
theorem pm_5 (x0 x1 x2 x3 x4 x5 x6 x7 : va_W) : List.Perm ((x0 ++ (x1 ++ (x2 ++ (x3 ++ (([] : va_W)))))) ++ (x4 ++ (x5 ++ (x6 ++ (x7 ++ (([] : va_W))))))) ((x3 ++ x7) ++ (x0 ++ (x1 ++ (x2 ++ (x4 ++ (x5 ++ (x6 ++ (([] : va_W))))))))) := prm (fun d z => by first | (simp only [List.count_append, List.count_nil]; omega) | simp only [List.count_append, List.count_nil])
set_option maxHeartbeats 4000000 in
set_option maxRecDepth 100000 in
theorem t_St_become (l : Launch) (G : GG) (a : Nat → Nat) (b : Nat → Nat) (v : V_St) (u : V_St) (q : V_St) (hf : f_St_become v u = some q) : MV l G y_St_become c_St_become 2 (rmk 2 40) (W_St G a v ++ W_St G b u) [.ref (a 0), .ref (b 0)] (W_St G a q ++ W_St G b u) := by
  refine ofV "FloodDiary$State" (by decide +kernel) rfl (Nat.le_of_ble_eq_true rfl) (fun p e s m args below meth c A ls hx hb hr hml hown hts hlk hK hN hA hP hD hS hl => ?_)
  have hl : lv_has ls 2 [(0, .ref (a 0)), (1, .ref (b 0))] := hl
  unfold f_St_become at hf
  refine lv_aload_n hx hb d_St_become_0 rfl (lv_at hl 0 rfl) ?_
  refine va_get (D := G.1) (ci := 6) (v := .ref (a 1)) (C := R_St) (T := T_St) (N := 9) hx hb hts in_St hown hK hP 0 rfl rfl 0 (by decide) (hts _ k_114) (fun _ h9 => h9) rfl d_St_become_1 ?_
  refine lv_aload_n hx hb d_St_become_4 rfl (lv_at hl 1 rfl) ?_
  refine va_get (D := G.1) (ci := 6) (v := .ref (b 1)) (C := R_St) (T := T_St) (N := 9) hx hb hts in_St hown hK hP 20 rfl rfl 0 (by decide) (hts _ k_114) (fun _ h9 => h9) rfl d_St_become_5 ?_
  obtain ⟨q_8, hc_8, hf⟩ := oc_e hf
  refine kcVv (cc := c_St_become) (own := "FloodDiary$State") (index := 52) (wc := W_Pg G (sh a 1) v.1 ++ W_Pg G (sh b 1) u.1) (wr := O_St G a v ++ (W_Dy G (sh a 6) v.2.1 ++ (W_Wk G (sh a 14) v.2.2.1 ++ (O_St G b u ++ (W_Dy G (sh b 6) u.2.1 ++ (W_Wk G (sh b 14) u.2.2.1 ++ (([] : va_W)))))))) (wc' := W_Pg G (sh a 1) q_8 ++ W_Pg G (sh b 1) u.1) (ws' := W_St G a (q_8, v.2.1, v.2.2.1, v.2.2.2.1, v.2.2.2.2.1, v.2.2.2.2.2.1, v.2.2.2.2.2.2.1, v.2.2.2.2.2.2.2.1, v.2.2.2.2.2.2.2.2) ++ W_St G b u) hx hb hml hown hts hK hN hA hP hD hS (t_Pg_become l G (sh a 1) (sh b 1) v.1 u.1 q_8 hc_8) m_Pg_become k_249 ⟨Nat.le_of_ble_eq_true rfl, Nat.le_of_ble_eq_true rfl⟩ (pm_3 (O_St G a v) (W_Pg G (sh a 1) v.1) (W_Dy G (sh a 6) v.2.1) (W_Wk G (sh a 14) v.2.2.1) (O_St G b u) (W_Pg G (sh b 1) u.1) (W_Dy G (sh b 6) u.2.1) (W_Wk G (sh b 14) u.2.2.1)) (pm_3 (O_St G a (q_8, v.2.1, v.2.2.1, v.2.2.2.1, v.2.2.2.2.1, v.2.2.2.2.2.1, v.2.2.2.2.2.2.1, v.2.2.2.2.2.2.2.1, v.2.2.2.2.2.2.2.2)) (W_Pg G (sh a 1) q_8) (W_Dy G (sh a 6) v.2.1) (W_Wk G (sh a 14) v.2.2.1) (O_St G b u) (W_Pg G (sh b 1) u.1) (W_Dy G (sh b 6) u.2.1) (W_Wk G (sh b 14) u.2.2.1)).symm 4 0 rfl rfl rfl rfl rfl (Nat.le_of_ble_eq_true rfl) hl.1 d_St_become_8 ⟨Nat.zero_le _, Nat.zero_le _⟩ (fun H locs hP hD hS => ?_)
  refine lv_aload_n hx hb d_St_become_11 rfl (lv_at hl 0 rfl) ?_
  refine va_get (D := G.1) (ci := 6) (v := .ref (a 6)) (C := R_St) (T := T_St) (N := 9) hx hb hts in_St hown hK hP 0 rfl rfl 1 (by decide) (hts _ k_116) (fun _ h9 => h9) rfl d_St_become_12 ?_
  refine lv_aload_n hx hb d_St_become_15 rfl (lv_at hl 1 rfl) ?_
  refine va_get (D := G.1) (ci := 6) (v := .ref (b 6)) (C := R_St) (T := T_St) (N := 9) hx hb hts in_St hown hK hP 20 rfl rfl 1 (by decide) (hts _ k_116) (fun _ h9 => h9) rfl d_St_become_16 ?_
  obtain ⟨q_19, hc_19, hf⟩ := oc_e hf
  refine kcVv (cc := c_St_become) (own := "FloodDiary$State") (index := 56) (wc := W_Dy G (sh a 6) v.2.1 ++ W_Dy G (sh b 6) u.2.1) (wr := O_St G a (q_8, v.2.1, v.2.2.1, v.2.2.2.1, v.2.2.2.2.1, v.2.2.2.2.2.1, v.2.2.2.2.2.2.1, v.2.2.2.2.2.2.2.1, v.2.2.2.2.2.2.2.2) ++ (W_Pg G (sh a 1) q_8 ++ (W_Wk G (sh a 14) v.2.2.1 ++ (O_St G b u ++ (W_Pg G (sh b 1) u.1 ++ (W_Wk G (sh b 14) u.2.2.1 ++ (([] : va_W)))))))) (wc' := W_Dy G (sh a 6) q_19 ++ W_Dy G (sh b 6) u.2.1) (ws' := W_St G a (q_8, q_19, v.2.2.1, v.2.2.2.1, v.2.2.2.2.1, v.2.2.2.2.2.1, v.2.2.2.2.2.2.1, v.2.2.2.2.2.2.2.1, v.2.2.2.2.2.2.2.2) ++ W_St G b u) hx hb hml hown hts hK hN hA hP hD hS (t_Dy_become l G (sh a 6) (sh b 6) v.2.1 u.2.1 q_19 hc_19) m_Dy_become k_256 ⟨Nat.le_of_ble_eq_true rfl, Nat.le_of_ble_eq_true rfl⟩ (pm_4 (O_St G a (q_8, v.2.1, v.2.2.1, v.2.2.2.1, v.2.2.2.2.1, v.2.2.2.2.2.1, v.2.2.2.2.2.2.1, v.2.2.2.2.2.2.2.1, v.2.2.2.2.2.2.2.2)) (W_Pg G (sh a 1) q_8) (W_Dy G (sh a 6) v.2.1) (W_Wk G (sh a 14) v.2.2.1) (O_St G b u) (W_Pg G (sh b 1) u.1) (W_Dy G (sh b 6) u.2.1) (W_Wk G (sh b 14) u.2.2.1)) (pm_4 (O_St G a (q_8, q_19, v.2.2.1, v.2.2.2.1, v.2.2.2.2.1, v.2.2.2.2.2.1, v.2.2.2.2.2.2.1, v.2.2.2.2.2.2.2.1, v.2.2.2.2.2.2.2.2)) (W_Pg G (sh a 1) q_8) (W_Dy G (sh a 6) q_19) (W_Wk G (sh a 14) v.2.2.1) (O_St G b u) (W_Pg G (sh b 1) u.1) (W_Dy G (sh b 6) u.2.1) (W_Wk G (sh b 14) u.2.2.1)).symm 0 0 rfl rfl rfl rfl rfl (Nat.le_of_ble_eq_true rfl) hl.1 d_St_become_19 ⟨Nat.zero_le _, Nat.zero_le _⟩ (fun H locs hP hD hS => ?_)
  refine lv_aload_n hx hb d_St_become_22 rfl (lv_at hl 0 rfl) ?_
  refine va_get (D := G.1) (ci := 6) (v := .ref (a 14)) (C := R_St) (T := T_St) (N := 9) hx hb hts in_St hown hK hP 0 rfl rfl 2 (by decide) (hts _ k_118) (fun _ h9 => h9) rfl d_St_become_23 ?_
  refine lv_aload_n hx hb d_St_become_26 rfl (lv_at hl 1 rfl) ?_
  refine va_get (D := G.1) (ci := 6) (v := .ref (b 14)) (C := R_St) (T := T_St) (N := 9) hx hb hts in_St hown hK hP 20 rfl rfl 2 (by decide) (hts _ k_118) (fun _ h9 => h9) rfl d_St_become_27 ?_
  obtain ⟨q_30, hc_30, hf⟩ := oc_e hf
  refine kcVv (cc := c_St_become) (own := "FloodDiary$State") (index := 59) (wc := W_Wk G (sh a 14) v.2.2.1 ++ W_Wk G (sh b 14) u.2.2.1) (wr := O_St G a (q_8, q_19, v.2.2.1, v.2.2.2.1, v.2.2.2.2.1, v.2.2.2.2.2.1, v.2.2.2.2.2.2.1, v.2.2.2.2.2.2.2.1, v.2.2.2.2.2.2.2.2) ++ (W_Pg G (sh a 1) q_8 ++ (W_Dy G (sh a 6) q_19 ++ (O_St G b u ++ (W_Pg G (sh b 1) u.1 ++ (W_Dy G (sh b 6) u.2.1 ++ (([] : va_W)))))))) (wc' := W_Wk G (sh a 14) q_30 ++ W_Wk G (sh b 14) u.2.2.1) (ws' := W_St G a (q_8, q_19, q_30, v.2.2.2.1, v.2.2.2.2.1, v.2.2.2.2.2.1, v.2.2.2.2.2.2.1, v.2.2.2.2.2.2.2.1, v.2.2.2.2.2.2.2.2) ++ W_St G b u) hx hb hml hown hts hK hN hA hP hD hS (t_Wk_become l G (sh a 14) (sh b 14) v.2.2.1 u.2.2.1 q_30 hc_30) m_Wk_become k_261 ⟨Nat.le_of_ble_eq_true rfl, Nat.le_of_ble_eq_true rfl⟩ (pm_5 (O_St G a (q_8, q_19, v.2.2.1, v.2.2.2.1, v.2.2.2.2.1, v.2.2.2.2.2.1, v.2.2.2.2.2.2.1, v.2.2.2.2.2.2.2.1, v.2.2.2.2.2.2.2.2)) (W_Pg G (sh a 1) q_8) (W_Dy G (sh a 6) q_19) (W_Wk G (sh a 14) v.2.2.1) (O_St G b u) (W_Pg G (sh b 1) u.1) (W_Dy G (sh b 6) u.2.1) (W_Wk G (sh b 14) u.2.2.1)) (pm_5 (O_St G a (q_8, q_19, q_30, v.2.2.2.1, v.2.2.2.2.1, v.2.2.2.2.2.1, v.2.2.2.2.2.2.1, v.2.2.2.2.2.2.2.1, v.2.2.2.2.2.2.2.2)) (W_Pg G (sh a 1) q_8) (W_Dy G (sh a 6) q_19) (W_Wk G (sh a 14) q_30) (O_St G b u) (W_Pg G (sh b 1) u.1) (W_Dy G (sh b 6) u.2.1) (W_Wk G (sh b 14) u.2.2.1)).symm 7 0 rfl rfl rfl rfl rfl (Nat.le_of_ble_eq_true rfl) hl.1 d_St_become_30 ⟨Nat.zero_le _, Nat.zero_le _⟩ (fun H locs hP hD hS => ?_)
  refine lv_aload_n hx hb d_St_become_33 rfl (lv_at hl 0 rfl) ?_
  refine lv_aload_n hx hb d_St_become_34 rfl (lv_at hl 1 rfl) ?_
  refine va_get (D := G.1) (ci := 6) (v := .int u.2.2.2.1) (C := R_St) (T := T_St) (N := 9) hx hb hts in_St hown hK hP 20 rfl rfl 3 (by decide) (hts _ k_120) (fun _ h9 => h9) rfl d_St_become_35 ?_
  obtain ⟨g_38, hf⟩ := og_e hf
  refine va_put (D := G.1) (ci := 6) (v := .int u.2.2.2.1) (ty := .boolean) (C := R_St) (T := T_St) (N := 9) hx hb hts in_St ty_St ty_St_ok nm_St hown hK hP hD hS 0 rfl rfl 3 (by decide) (hts _ k_120) (fun _ h9 => h9) rfl (ty_St_ok 3 (by decide)) (bnar g_38).1 (bnar g_38).2 (Nat.le_of_ble_eq_true rfl) d_St_become_38 (fun H locs hP hD hS => ?_)
  have hP : va_P G.1 vwCl (W_St G a (q_8, q_19, q_30, u.2.2.2.1, v.2.2.2.2.1, v.2.2.2.2.2.1, v.2.2.2.2.2.2.1, v.2.2.2.2.2.2.2.1, v.2.2.2.2.2.2.2.2) ++ W_St G b u) H := hP
  have hD : va_D A (W_St G a (q_8, q_19, q_30, u.2.2.2.1, v.2.2.2.2.1, v.2.2.2.2.2.1, v.2.2.2.2.2.2.1, v.2.2.2.2.2.2.2.1, v.2.2.2.2.2.2.2.2) ++ W_St G b u) := hD
  refine lv_aload_n hx hb d_St_become_41 rfl (lv_at hl 0 rfl) ?_
  refine lv_aload_n hx hb d_St_become_42 rfl (lv_at hl 1 rfl) ?_
  refine va_get (D := G.1) (ci := 6) (v := .int u.2.2.2.2.1) (C := R_St) (T := T_St) (N := 9) hx hb hts in_St hown hK hP 20 rfl rfl 4 (by decide) (hts _ k_122) (fun _ h9 => h9) rfl d_St_become_43 ?_
  obtain ⟨g_46, hf⟩ := og_e hf
  refine va_put (D := G.1) (ci := 6) (v := .int u.2.2.2.2.1) (ty := .boolean) (C := R_St) (T := T_St) (N := 9) hx hb hts in_St ty_St ty_St_ok nm_St hown hK hP hD hS 0 rfl rfl 4 (by decide) (hts _ k_122) (fun _ h9 => h9) rfl (ty_St_ok 4 (by decide)) (bnar g_46).1 (bnar g_46).2 (Nat.le_of_ble_eq_true rfl) d_St_become_46 (fun H locs hP hD hS => ?_)
  have hP : va_P G.1 vwCl (W_St G a (q_8, q_19, q_30, u.2.2.2.1, u.2.2.2.2.1, v.2.2.2.2.2.1, v.2.2.2.2.2.2.1, v.2.2.2.2.2.2.2.1, v.2.2.2.2.2.2.2.2) ++ W_St G b u) H := hP
  have hD : va_D A (W_St G a (q_8, q_19, q_30, u.2.2.2.1, u.2.2.2.2.1, v.2.2.2.2.2.1, v.2.2.2.2.2.2.1, v.2.2.2.2.2.2.2.1, v.2.2.2.2.2.2.2.2) ++ W_St G b u) := hD
  refine lv_aload_n hx hb d_St_become_49 rfl (lv_at hl 0 rfl) ?_
  refine lv_aload_n hx hb d_St_become_50 rfl (lv_at hl 1 rfl) ?_
  refine va_get (D := G.1) (ci := 6) (v := .int u.2.2.2.2.2.1) (C := R_St) (T := T_St) (N := 9) hx hb hts in_St hown hK hP 20 rfl rfl 5 (by decide) (hts _ k_123) (fun _ h9 => h9) rfl d_St_become_51 ?_
  refine va_put (D := G.1) (ci := 6) (v := .int u.2.2.2.2.2.1) (ty := .int) (C := R_St) (T := T_St) (N := 9) hx hb hts in_St ty_St ty_St_ok nm_St hown hK hP hD hS 0 rfl rfl 5 (by decide) (hts _ k_123) (fun _ h9 => h9) rfl (ty_St_ok 5 (by decide)) rfl rfl (Nat.le_of_ble_eq_true rfl) d_St_become_54 (fun H locs hP hD hS => ?_)
  have hP : va_P G.1 vwCl (W_St G a (q_8, q_19, q_30, u.2.2.2.1, u.2.2.2.2.1, u.2.2.2.2.2.1, v.2.2.2.2.2.2.1, v.2.2.2.2.2.2.2.1, v.2.2.2.2.2.2.2.2) ++ W_St G b u) H := hP
  have hD : va_D A (W_St G a (q_8, q_19, q_30, u.2.2.2.1, u.2.2.2.2.1, u.2.2.2.2.2.1, v.2.2.2.2.2.2.1, v.2.2.2.2.2.2.2.1, v.2.2.2.2.2.2.2.2) ++ W_St G b u) := hD
  refine lv_aload_n hx hb d_St_become_57 rfl (lv_at hl 0 rfl) ?_
  refine lv_aload_n hx hb d_St_become_58 rfl (lv_at hl 1 rfl) ?_
  refine va_get (D := G.1) (ci := 6) (v := .int u.2.2.2.2.2.2.1) (C := R_St) (T := T_St) (N := 9) hx hb hts in_St hown hK hP 20 rfl rfl 6 (by decide) (hts _ k_124) (fun _ h9 => h9) rfl d_St_become_59 ?_
  refine va_put (D := G.1) (ci := 6) (v := .int u.2.2.2.2.2.2.1) (ty := .int) (C := R_St) (T := T_St) (N := 9) hx hb hts in_St ty_St ty_St_ok nm_St hown hK hP hD hS 0 rfl rfl 6 (by decide) (hts _ k_124) (fun _ h9 => h9) rfl (ty_St_ok 6 (by decide)) rfl rfl (Nat.le_of_ble_eq_true rfl) d_St_become_62 (fun H locs hP hD hS => ?_)
  have hP : va_P G.1 vwCl (W_St G a (q_8, q_19, q_30, u.2.2.2.1, u.2.2.2.2.1, u.2.2.2.2.2.1, u.2.2.2.2.2.2.1, v.2.2.2.2.2.2.2.1, v.2.2.2.2.2.2.2.2) ++ W_St G b u) H := hP
  have hD : va_D A (W_St G a (q_8, q_19, q_30, u.2.2.2.1, u.2.2.2.2.1, u.2.2.2.2.2.1, u.2.2.2.2.2.2.1, v.2.2.2.2.2.2.2.1, v.2.2.2.2.2.2.2.2) ++ W_St G b u) := hD
  refine lv_aload_n hx hb d_St_become_65 rfl (lv_at hl 0 rfl) ?_
  refine lv_aload_n hx hb d_St_become_66 rfl (lv_at hl 1 rfl) ?_
  refine va_get (D := G.1) (ci := 6) (v := .int u.2.2.2.2.2.2.2.1) (C := R_St) (T := T_St) (N := 9) hx hb hts in_St hown hK hP 20 rfl rfl 7 (by decide) (hts _ k_125) (fun _ h9 => h9) rfl d_St_become_67 ?_
  refine va_put (D := G.1) (ci := 6) (v := .int u.2.2.2.2.2.2.2.1) (ty := .int) (C := R_St) (T := T_St) (N := 9) hx hb hts in_St ty_St ty_St_ok nm_St hown hK hP hD hS 0 rfl rfl 7 (by decide) (hts _ k_125) (fun _ h9 => h9) rfl (ty_St_ok 7 (by decide)) rfl rfl (Nat.le_of_ble_eq_true rfl) d_St_become_70 (fun H locs hP hD hS => ?_)
  have hP : va_P G.1 vwCl (W_St G a (q_8, q_19, q_30, u.2.2.2.1, u.2.2.2.2.1, u.2.2.2.2.2.1, u.2.2.2.2.2.2.1, u.2.2.2.2.2.2.2.1, v.2.2.2.2.2.2.2.2) ++ W_St G b u) H := hP
  have hD : va_D A (W_St G a (q_8, q_19, q_30, u.2.2.2.1, u.2.2.2.2.1, u.2.2.2.2.2.1, u.2.2.2.2.2.2.1, u.2.2.2.2.2.2.2.1, v.2.2.2.2.2.2.2.2) ++ W_St G b u) := hD
  refine lv_aload_n hx hb d_St_become_73 rfl (lv_at hl 0 rfl) ?_
  refine lv_aload_n hx hb d_St_become_74 rfl (lv_at hl 1 rfl) ?_
  refine va_get (D := G.1) (ci := 6) (v := .int u.2.2.2.2.2.2.2.2) (C := R_St) (T := T_St) (N := 9) hx hb hts in_St hown hK hP 20 rfl rfl 8 (by decide) (hts _ k_126) (fun _ h9 => h9) rfl d_St_become_75 ?_
  refine va_put (D := G.1) (ci := 6) (v := .int u.2.2.2.2.2.2.2.2) (ty := .int) (C := R_St) (T := T_St) (N := 9) hx hb hts in_St ty_St ty_St_ok nm_St hown hK hP hD hS 0 rfl rfl 8 (by decide) (hts _ k_126) (fun _ h9 => h9) rfl (ty_St_ok 8 (by decide)) rfl rfl (Nat.le_of_ble_eq_true rfl) d_St_become_78 (fun H locs hP hD hS => ?_)
  have hP : va_P G.1 vwCl (W_St G a (q_8, q_19, q_30, u.2.2.2.1, u.2.2.2.2.1, u.2.2.2.2.2.1, u.2.2.2.2.2.2.1, u.2.2.2.2.2.2.2.1, u.2.2.2.2.2.2.2.2) ++ W_St G b u) H := hP
  have hD : va_D A (W_St G a (q_8, q_19, q_30, u.2.2.2.1, u.2.2.2.2.1, u.2.2.2.2.2.1, u.2.2.2.2.2.2.1, u.2.2.2.2.2.2.2.1, u.2.2.2.2.2.2.2.2) ++ W_St G b u) := hD
  cases hf
  exact kV hx hb hr hlk hP hD hS d_St_become_81
theorem pm_6 (x0 x1 x2 x3 : va_W) : List.Perm (x0 ++ (x1 ++ (x2 ++ (x3 ++ (([] : va_W)))))) ((x3) ++ (x0 ++ (x1 ++ (x2 ++ (([] : va_W)))))) := prm (fun d z => by first | (simp only [List.count_append, List.count_nil]; omega) | simp only [List.count_append, List.count_nil])
theorem pm_7 (x0 x1 x2 x3 : va_W) : List.Perm (x0 ++ (x1 ++ (x2 ++ (x3 ++ (([] : va_W)))))) ((x2) ++ (x0 ++ (x1 ++ (x3 ++ (([] : va_W)))))) := prm (fun d z => by first | (simp only [List.count_append, List.count_nil]; omega) | simp only [List.count_append, List.count_nil])
set_option maxHeartbeats 4000000 in
set_option maxRecDepth 100000 in
theorem t_St_enter (l : Launch) (G : GG) (a : Nat → Nat) (l1 : Int32) (l2 : Int32) (v : V_St) (q : Int32 × V_St) (hf : f_St_enter l1 l2 v = some q) : MI l G y_St_enter c_St_enter 4 (some .int) (rmk 2 47) (W_St G a v) [.ref (a 0), .int l1, .int l2] (W_St G a q.2) (q.1) := by
  refine ofI "FloodDiary$State" (by decide +kernel) rfl (Nat.le_of_ble_eq_true rfl) (fun p e s m args below meth c A ls hx hb hr hml hown hts hlk hK hN hA hP hD hS hl => ?_)
  have hl : lv_has ls 4 [(0, .ref (a 0)), (1, .int l1), (2, .int l2)] := hl
  unfold f_St_enter at hf
  refine lv_aload_n hx hb d_St_enter_0 rfl (lv_at hl 0 rfl) ?_
  refine va_get (D := G.1) (ci := 6) (v := .ref (a 6)) (C := R_St) (T := T_St) (N := 9) hx hb hts in_St hown hK hP 0 rfl rfl 1 (by decide) (hts _ k_116) (fun _ h9 => h9) rfl d_St_enter_1 ?_
  refine lv_iload_n hx hb d_St_enter_4 rfl (lv_at hl 1 rfl) ?_
  refine lv_iload_n hx hb d_St_enter_5 rfl (lv_at hl 2 rfl) ?_
  refine lv_aload_n hx hb d_St_enter_6 rfl (lv_at hl 0 rfl) ?_
  refine va_get (D := G.1) (ci := 6) (v := .ref (a 14)) (C := R_St) (T := T_St) (N := 9) hx hb hts in_St hown hK hP 0 rfl rfl 2 (by decide) (hts _ k_118) (fun _ h9 => h9) rfl d_St_enter_7 ?_
  refine lv_iload_n hx hb d_St_enter_10 rfl (lv_at hl 2 rfl) ?_
  obtain ⟨q_11, hc_11, hf⟩ := oc_e hf
  refine kcV (cc := c_St_enter) (own := "FloodDiary$State") (index := 166) (wc := W_Wk G (sh a 14) v.2.2.1) (wr := O_St G a v ++ (W_Pg G (sh a 1) v.1 ++ (W_Dy G (sh a 6) v.2.1 ++ (([] : va_W))))) (wc' := W_Wk G (sh a 14) v.2.2.1) (ws' := W_St G a v) hx hb hml hown hts hK hN hA hP hD hS (t_Wk_lastOf l G (sh a 14) l2 v.2.2.1 q_11 hc_11) m_Wk_lastOf k_282 ⟨Nat.le_of_ble_eq_true rfl, Nat.le_of_ble_eq_true rfl⟩ (pm_6 (O_St G a v) (W_Pg G (sh a 1) v.1) (W_Dy G (sh a 6) v.2.1) (W_Wk G (sh a 14) v.2.2.1)) (pm_6 (O_St G a v) (W_Pg G (sh a 1) v.1) (W_Dy G (sh a 6) v.2.1) (W_Wk G (sh a 14) v.2.2.1)).symm 7 0 rfl rfl rfl rfl rfl (Nat.le_of_ble_eq_true rfl) hl.1 d_St_enter_11 ⟨Nat.zero_le _, Nat.zero_le _⟩ (fun H locs hP hD hS => ?_)
  obtain ⟨q_14, hc_14, hf⟩ := oc_e hf
  refine kcV (cc := c_St_enter) (own := "FloodDiary$State") (index := 169) (wc := W_Dy G (sh a 6) v.2.1) (wr := O_St G a v ++ (W_Pg G (sh a 1) v.1 ++ (W_Wk G (sh a 14) v.2.2.1 ++ (([] : va_W))))) (wc' := W_Dy G (sh a 6) q_14.2) (ws' := W_St G a (v.1, q_14.2, v.2.2.1, v.2.2.2.1, v.2.2.2.2.1, v.2.2.2.2.2.1, v.2.2.2.2.2.2.1, v.2.2.2.2.2.2.2.1, v.2.2.2.2.2.2.2.2)) hx hb hml hown hts hK hN hA hP hD hS (t_Dy_add l G (sh a 6) l1 l2 q_11 v.2.1 q_14 hc_14) m_Dy_add k_290 ⟨Nat.le_of_ble_eq_true rfl, Nat.le_of_ble_eq_true rfl⟩ (pm_7 (O_St G a v) (W_Pg G (sh a 1) v.1) (W_Dy G (sh a 6) v.2.1) (W_Wk G (sh a 14) v.2.2.1)) (pm_7 (O_St G a (v.1, q_14.2, v.2.2.1, v.2.2.2.1, v.2.2.2.2.1, v.2.2.2.2.2.1, v.2.2.2.2.2.2.1, v.2.2.2.2.2.2.2.1, v.2.2.2.2.2.2.2.2)) (W_Pg G (sh a 1) v.1) (W_Dy G (sh a 6) q_14.2) (W_Wk G (sh a 14) v.2.2.1)).symm 0 0 rfl rfl rfl rfl rfl (Nat.le_of_ble_eq_true rfl) hl.1 d_St_enter_14 ⟨Nat.zero_le _, Nat.zero_le _⟩ (fun H locs hP hD hS => ?_)
  refine lv_istore_n (lv' := [(3, .int q_14.1), (0, .ref (a 0)), (1, .int l1), (2, .int l2)]) hx hb d_St_enter_17 rfl hl (by decide) rfl (fun ls hl => ?_)
  refine lv_aload_n hx hb d_St_enter_18 rfl (lv_at hl 1 rfl) ?_
  refine va_get (D := G.1) (ci := 6) (v := .ref (a 14)) (C := R_St) (T := T_St) (N := 9) hx hb hts in_St hown hK hP 0 rfl rfl 2 (by decide) (hts _ k_118) (fun _ h9 => h9) rfl d_St_enter_19 ?_
  refine lv_iload_n hx hb d_St_enter_22 rfl (lv_at hl 0 rfl) ?_
  refine lv_iload_n hx hb d_St_enter_23 rfl (lv_at hl 2 rfl) ?_
  refine lv_iload_n hx hb d_St_enter_24 rfl (lv_at hl 3 rfl) ?_
  refine lv_bipush (v := (-6 : Int32)) hx hb d_St_enter_25 (by decide) ?_
  refine lv_bipush (v := (-6 : Int32)) hx hb d_St_enter_27 (by decide) ?_
  obtain ⟨q_29, hc_29, hf⟩ := oc_e hf
  refine kcVv (cc := c_St_enter) (own := "FloodDiary$State") (index := 173) (wc := W_Wk G (sh a 14) v.2.2.1) (wr := O_St G a (v.1, q_14.2, v.2.2.1, v.2.2.2.1, v.2.2.2.2.1, v.2.2.2.2.2.1, v.2.2.2.2.2.2.1, v.2.2.2.2.2.2.2.1, v.2.2.2.2.2.2.2.2) ++ (W_Pg G (sh a 1) v.1 ++ (W_Dy G (sh a 6) q_14.2 ++ (([] : va_W))))) (wc' := W_Wk G (sh a 14) q_29) (ws' := W_St G a (v.1, q_14.2, q_29, v.2.2.2.1, v.2.2.2.2.1, v.2.2.2.2.2.1, v.2.2.2.2.2.2.1, v.2.2.2.2.2.2.2.1, v.2.2.2.2.2.2.2.2)) hx hb hml hown hts hK hN hA hP hD hS (t_Wk_take l G (sh a 14) q_14.1 l1 l2 (-6 : Int32) (-6 : Int32) v.2.2.1 q_29 hc_29) m_Wk_take k_294 ⟨Nat.le_of_ble_eq_true rfl, Nat.le_of_ble_eq_true rfl⟩ (pm_6 (O_St G a (v.1, q_14.2, v.2.2.1, v.2.2.2.1, v.2.2.2.2.1, v.2.2.2.2.2.1, v.2.2.2.2.2.2.1, v.2.2.2.2.2.2.2.1, v.2.2.2.2.2.2.2.2)) (W_Pg G (sh a 1) v.1) (W_Dy G (sh a 6) q_14.2) (W_Wk G (sh a 14) v.2.2.1)) (pm_6 (O_St G a (v.1, q_14.2, q_29, v.2.2.2.1, v.2.2.2.2.1, v.2.2.2.2.2.1, v.2.2.2.2.2.2.1, v.2.2.2.2.2.2.2.1, v.2.2.2.2.2.2.2.2)) (W_Pg G (sh a 1) v.1) (W_Dy G (sh a 6) q_14.2) (W_Wk G (sh a 14) q_29)).symm 7 0 rfl rfl rfl rfl rfl (Nat.le_of_ble_eq_true rfl) hl.1 d_St_enter_29 ⟨Nat.zero_le _, Nat.zero_le _⟩ (fun H locs hP hD hS => ?_)
  refine lv_iload_n hx hb d_St_enter_32 rfl (lv_at hl 0 rfl) ?_
  cases hf
  exact kI hx hb hr hlk hP hD hS d_St_enter_33
theorem pm_8 (x0 x1 x2 x3 : va_W) : List.Perm (x0 ++ (x1 ++ (x2 ++ (x3 ++ (([] : va_W)))))) ((x1) ++ (x0 ++ (x2 ++ (x3 ++ (([] : va_W)))))) := prm (fun d z => by first | (simp only [List.count_append, List.count_nil]; omega) | simp only [List.count_append, List.count_nil])
set_option maxHeartbeats 4000000 in
set_option maxRecDepth 100000 in
theorem t_St_enterOnPage (l : Launch) (G : GG) (a : Nat → Nat) (l1 : Int32) (l2 : Int32) (l3 : Int32) (l4 : Int32) (l5 : Int32) (l6 : Int32) (v : V_St) (q : V_St) (hf : f_St_enterOnPage l1 l2 l3 l4 l5 l6 v = some q) : MV l G y_St_enterOnPage c_St_enterOnPage 8 (rmk 2 47) (W_St G a v) [.ref (a 0), .int l1, .int l2, .int l3, .int l4, .int l5, .int l6] (W_St G a q) := by
  refine ofV "FloodDiary$State" (by decide +kernel) rfl (Nat.le_of_ble_eq_true rfl) (fun p e s m args below meth c A ls hx hb hr hml hown hts hlk hK hN hA hP hD hS hl => ?_)
  have hl : lv_has ls 8 [(0, .ref (a 0)), (1, .int l1), (2, .int l2), (3, .int l3), (4, .int l4), (5, .int l5), (6, .int l6)] := hl
  unfold f_St_enterOnPage at hf
  refine lv_aload_n hx hb d_St_enterOnPage_0 rfl (lv_at hl 0 rfl) ?_
  refine va_get (D := G.1) (ci := 6) (v := .ref (a 6)) (C := R_St) (T := T_St) (N := 9) hx hb hts in_St hown hK hP 0 rfl rfl 1 (by decide) (hts _ k_116) (fun _ h9 => h9) rfl d_St_enterOnPage_1 ?_
  refine lv_iload_n hx hb d_St_enterOnPage_4 rfl (lv_at hl 1 rfl) ?_
  refine lv_iload_n hx hb d_St_enterOnPage_5 rfl (lv_at hl 2 rfl) ?_
  refine lv_aload_n hx hb d_St_enterOnPage_6 rfl (lv_at hl 0 rfl) ?_
  refine va_get (D := G.1) (ci := 6) (v := .ref (a 14)) (C := R_St) (T := T_St) (N := 9) hx hb hts in_St hown hK hP 0 rfl rfl 2 (by decide) (hts _ k_118) (fun _ h9 => h9) rfl d_St_enterOnPage_7 ?_
  refine lv_iload_n hx hb d_St_enterOnPage_10 rfl (lv_at hl 2 rfl) ?_
  obtain ⟨q_11, hc_11, hf⟩ := oc_e hf
  refine kcV (cc := c_St_enterOnPage) (own := "FloodDiary$State") (index := 166) (wc := W_Wk G (sh a 14) v.2.2.1) (wr := O_St G a v ++ (W_Pg G (sh a 1) v.1 ++ (W_Dy G (sh a 6) v.2.1 ++ (([] : va_W))))) (wc' := W_Wk G (sh a 14) v.2.2.1) (ws' := W_St G a v) hx hb hml hown hts hK hN hA hP hD hS (t_Wk_lastOf l G (sh a 14) l2 v.2.2.1 q_11 hc_11) m_Wk_lastOf k_282 ⟨Nat.le_of_ble_eq_true rfl, Nat.le_of_ble_eq_true rfl⟩ (pm_6 (O_St G a v) (W_Pg G (sh a 1) v.1) (W_Dy G (sh a 6) v.2.1) (W_Wk G (sh a 14) v.2.2.1)) (pm_6 (O_St G a v) (W_Pg G (sh a 1) v.1) (W_Dy G (sh a 6) v.2.1) (W_Wk G (sh a 14) v.2.2.1)).symm 7 0 rfl rfl rfl rfl rfl (Nat.le_of_ble_eq_true rfl) hl.1 d_St_enterOnPage_11 ⟨Nat.zero_le _, Nat.zero_le _⟩ (fun H locs hP hD hS => ?_)
  obtain ⟨q_14, hc_14, hf⟩ := oc_e hf
  refine kcV (cc := c_St_enterOnPage) (own := "FloodDiary$State") (index := 169) (wc := W_Dy G (sh a 6) v.2.1) (wr := O_St G a v ++ (W_Pg G (sh a 1) v.1 ++ (W_Wk G (sh a 14) v.2.2.1 ++ (([] : va_W))))) (wc' := W_Dy G (sh a 6) q_14.2) (ws' := W_St G a (v.1, q_14.2, v.2.2.1, v.2.2.2.1, v.2.2.2.2.1, v.2.2.2.2.2.1, v.2.2.2.2.2.2.1, v.2.2.2.2.2.2.2.1, v.2.2.2.2.2.2.2.2)) hx hb hml hown hts hK hN hA hP hD hS (t_Dy_add l G (sh a 6) l1 l2 q_11 v.2.1 q_14 hc_14) m_Dy_add k_290 ⟨Nat.le_of_ble_eq_true rfl, Nat.le_of_ble_eq_true rfl⟩ (pm_7 (O_St G a v) (W_Pg G (sh a 1) v.1) (W_Dy G (sh a 6) v.2.1) (W_Wk G (sh a 14) v.2.2.1)) (pm_7 (O_St G a (v.1, q_14.2, v.2.2.1, v.2.2.2.1, v.2.2.2.2.1, v.2.2.2.2.2.1, v.2.2.2.2.2.2.1, v.2.2.2.2.2.2.2.1, v.2.2.2.2.2.2.2.2)) (W_Pg G (sh a 1) v.1) (W_Dy G (sh a 6) q_14.2) (W_Wk G (sh a 14) v.2.2.1)).symm 0 0 rfl rfl rfl rfl rfl (Nat.le_of_ble_eq_true rfl) hl.1 d_St_enterOnPage_14 ⟨Nat.zero_le _, Nat.zero_le _⟩ (fun H locs hP hD hS => ?_)
  refine lv_istore (lv' := [(7, .int q_14.1), (0, .ref (a 0)), (1, .int l1), (2, .int l2), (3, .int l3), (4, .int l4), (5, .int l5), (6, .int l6)]) hx hb d_St_enterOnPage_17 hl (by decide) rfl (fun ls hl => ?_)
  refine lv_aload_n hx hb d_St_enterOnPage_19 rfl (lv_at hl 1 rfl) ?_
  refine va_get (D := G.1) (ci := 6) (v := .ref (a 6)) (C := R_St) (T := T_St) (N := 9) hx hb hts in_St hown hK hP 0 rfl rfl 1 (by decide) (hts _ k_116) (fun _ h9 => h9) rfl d_St_enterOnPage_20 ?_
  refine lv_iload hx hb d_St_enterOnPage_23 (lv_at hl 0 rfl) ?_
  refine lv_iload_n hx hb d_St_enterOnPage_25 rfl (lv_at hl 4 rfl) ?_
  refine lv_iload hx hb d_St_enterOnPage_26 (lv_at hl 5 rfl) ?_
  refine lv_iload hx hb d_St_enterOnPage_28 (lv_at hl 6 rfl) ?_
  refine lv_iload hx hb d_St_enterOnPage_30 (lv_at hl 7 rfl) ?_
  obtain ⟨q_32, hc_32, hf⟩ := oc_e hf
  refine kcVv (cc := c_St_enterOnPage) (own := "FloodDiary$State") (index := 177) (wc := W_Dy G (sh a 6) q_14.2) (wr := O_St G a (v.1, q_14.2, v.2.2.1, v.2.2.2.1, v.2.2.2.2.1, v.2.2.2.2.2.1, v.2.2.2.2.2.2.1, v.2.2.2.2.2.2.2.1, v.2.2.2.2.2.2.2.2) ++ (W_Pg G (sh a 1) v.1 ++ (W_Wk G (sh a 14) v.2.2.1 ++ (([] : va_W))))) (wc' := W_Dy G (sh a 6) q_32) (ws' := W_St G a (v.1, q_32, v.2.2.1, v.2.2.2.1, v.2.2.2.2.1, v.2.2.2.2.2.1, v.2.2.2.2.2.2.1, v.2.2.2.2.2.2.2.1, v.2.2.2.2.2.2.2.2)) hx hb hml hown hts hK hN hA hP hD hS (t_Dy_tellPage l G (sh a 6) q_14.1 l3 l4 l5 l6 q_14.2 q_32 hc_32) m_Dy_tellPage k_349 ⟨Nat.le_of_ble_eq_true rfl, Nat.le_of_ble_eq_true rfl⟩ (pm_7 (O_St G a (v.1, q_14.2, v.2.2.1, v.2.2.2.1, v.2.2.2.2.1, v.2.2.2.2.2.1, v.2.2.2.2.2.2.1, v.2.2.2.2.2.2.2.1, v.2.2.2.2.2.2.2.2)) (W_Pg G (sh a 1) v.1) (W_Dy G (sh a 6) q_14.2) (W_Wk G (sh a 14) v.2.2.1)) (pm_7 (O_St G a (v.1, q_32, v.2.2.1, v.2.2.2.1, v.2.2.2.2.1, v.2.2.2.2.2.1, v.2.2.2.2.2.2.1, v.2.2.2.2.2.2.2.1, v.2.2.2.2.2.2.2.2)) (W_Pg G (sh a 1) v.1) (W_Dy G (sh a 6) q_32) (W_Wk G (sh a 14) v.2.2.1)).symm 0 0 rfl rfl rfl rfl rfl (Nat.le_of_ble_eq_true rfl) hl.1 d_St_enterOnPage_32 ⟨Nat.zero_le _, Nat.zero_le _⟩ (fun H locs hP hD hS => ?_)
  refine lv_aload_n hx hb d_St_enterOnPage_35 rfl (lv_at hl 1 rfl) ?_
  refine va_get (D := G.1) (ci := 6) (v := .ref (a 14)) (C := R_St) (T := T_St) (N := 9) hx hb hts in_St hown hK hP 0 rfl rfl 2 (by decide) (hts _ k_118) (fun _ h9 => h9) rfl d_St_enterOnPage_36 ?_
  refine lv_iload hx hb d_St_enterOnPage_39 (lv_at hl 0 rfl) ?_
  refine lv_iload_n hx hb d_St_enterOnPage_41 rfl (lv_at hl 2 rfl) ?_
  refine lv_iload_n hx hb d_St_enterOnPage_42 rfl (lv_at hl 3 rfl) ?_
  refine lv_iload_n hx hb d_St_enterOnPage_43 rfl (lv_at hl 4 rfl) ?_
  refine lv_iload hx hb d_St_enterOnPage_44 (lv_at hl 7 rfl) ?_
  obtain ⟨q_46, hc_46, hf⟩ := oc_e hf
  refine kcVv (cc := c_St_enterOnPage) (own := "FloodDiary$State") (index := 173) (wc := W_Wk G (sh a 14) v.2.2.1) (wr := O_St G a (v.1, q_32, v.2.2.1, v.2.2.2.1, v.2.2.2.2.1, v.2.2.2.2.2.1, v.2.2.2.2.2.2.1, v.2.2.2.2.2.2.2.1, v.2.2.2.2.2.2.2.2) ++ (W_Pg G (sh a 1) v.1 ++ (W_Dy G (sh a 6) q_32 ++ (([] : va_W))))) (wc' := W_Wk G (sh a 14) q_46) (ws' := W_St G a (v.1, q_32, q_46, v.2.2.2.1, v.2.2.2.2.1, v.2.2.2.2.2.1, v.2.2.2.2.2.2.1, v.2.2.2.2.2.2.2.1, v.2.2.2.2.2.2.2.2)) hx hb hml hown hts hK hN hA hP hD hS (t_Wk_take l G (sh a 14) q_14.1 l1 l2 l3 l6 v.2.2.1 q_46 hc_46) m_Wk_take k_294 ⟨Nat.le_of_ble_eq_true rfl, Nat.le_of_ble_eq_true rfl⟩ (pm_6 (O_St G a (v.1, q_32, v.2.2.1, v.2.2.2.1, v.2.2.2.2.1, v.2.2.2.2.2.1, v.2.2.2.2.2.2.1, v.2.2.2.2.2.2.2.1, v.2.2.2.2.2.2.2.2)) (W_Pg G (sh a 1) v.1) (W_Dy G (sh a 6) q_32) (W_Wk G (sh a 14) v.2.2.1)) (pm_6 (O_St G a (v.1, q_32, q_46, v.2.2.2.1, v.2.2.2.2.1, v.2.2.2.2.2.1, v.2.2.2.2.2.2.1, v.2.2.2.2.2.2.2.1, v.2.2.2.2.2.2.2.2)) (W_Pg G (sh a 1) v.1) (W_Dy G (sh a 6) q_32) (W_Wk G (sh a 14) q_46)).symm 7 0 rfl rfl rfl rfl rfl (Nat.le_of_ble_eq_true rfl) hl.1 d_St_enterOnPage_46 ⟨Nat.zero_le _, Nat.zero_le _⟩ (fun H locs hP hD hS => ?_)
  refine lv_aload_n hx hb d_St_enterOnPage_49 rfl (lv_at hl 1 rfl) ?_
  refine va_get (D := G.1) (ci := 6) (v := .ref (a 1)) (C := R_St) (T := T_St) (N := 9) hx hb hts in_St hown hK hP 0 rfl rfl 0 (by decide) (hts _ k_114) (fun _ h9 => h9) rfl d_St_enterOnPage_50 ?_
  refine lv_iload_n hx hb d_St_enterOnPage_53 rfl (lv_at hl 4 rfl) ?_
  refine lv_iload hx hb d_St_enterOnPage_54 (lv_at hl 6 rfl) ?_
  refine lv_iload hx hb d_St_enterOnPage_56 (lv_at hl 0 rfl) ?_
  obtain ⟨q_58, hc_58, hf⟩ := oc_e hf
  refine kcVv (cc := c_St_enterOnPage) (own := "FloodDiary$State") (index := 180) (wc := W_Pg G (sh a 1) v.1) (wr := O_St G a (v.1, q_32, q_46, v.2.2.2.1, v.2.2.2.2.1, v.2.2.2.2.2.1, v.2.2.2.2.2.2.1, v.2.2.2.2.2.2.2.1, v.2.2.2.2.2.2.2.2) ++ (W_Dy G (sh a 6) q_32 ++ (W_Wk G (sh a 14) q_46 ++ (([] : va_W))))) (wc' := W_Pg G (sh a 1) q_58) (ws' := W_St G a (q_58, q_32, q_46, v.2.2.2.1, v.2.2.2.2.1, v.2.2.2.2.2.1, v.2.2.2.2.2.2.1, v.2.2.2.2.2.2.2.1, v.2.2.2.2.2.2.2.2)) hx hb hml hown hts hK hN hA hP hD hS (t_Pg_change l G (sh a 1) l3 l5 q_14.1 v.1 q_58 hc_58) m_Pg_change k_357 ⟨Nat.le_of_ble_eq_true rfl, Nat.le_of_ble_eq_true rfl⟩ (pm_8 (O_St G a (v.1, q_32, q_46, v.2.2.2.1, v.2.2.2.2.1, v.2.2.2.2.2.1, v.2.2.2.2.2.2.1, v.2.2.2.2.2.2.2.1, v.2.2.2.2.2.2.2.2)) (W_Pg G (sh a 1) v.1) (W_Dy G (sh a 6) q_32) (W_Wk G (sh a 14) q_46)) (pm_8 (O_St G a (q_58, q_32, q_46, v.2.2.2.1, v.2.2.2.2.1, v.2.2.2.2.2.1, v.2.2.2.2.2.2.1, v.2.2.2.2.2.2.2.1, v.2.2.2.2.2.2.2.2)) (W_Pg G (sh a 1) q_58) (W_Dy G (sh a 6) q_32) (W_Wk G (sh a 14) q_46)).symm 4 0 rfl rfl rfl rfl rfl (Nat.le_of_ble_eq_true rfl) hl.1 d_St_enterOnPage_58 ⟨Nat.zero_le _, Nat.zero_le _⟩ (fun H locs hP hD hS => ?_)
  cases hf
  exact kV hx hb hr hlk hP hD hS d_St_enterOnPage_61
set_option maxHeartbeats 4000000 in
set_option maxRecDepth 100000 in
theorem t_St_stepBack (l : Launch) (G : GG) (a : Nat → Nat) (l1 : Int32) (v : V_St) (q : V_St) (hf : f_St_stepBack l1 v = some q) : MV l G y_St_stepBack c_St_stepBack 3 (rmk 3 74) (W_St G a v) [.ref (a 0), .int l1] (W_St G a q) := by
  refine ofV "FloodDiary$State" (by decide +kernel) rfl (Nat.le_of_ble_eq_true rfl) (fun p e s m args below meth c A ls hx hb hr hml hown hts hlk hK hN hA hP hD hS hl => ?_)
  have hl : lv_has ls 3 [(0, .ref (a 0)), (1, .int l1)] := hl
  unfold f_St_stepBack at hf
  refine lv_aload_n hx hb d_St_stepBack_0 rfl (lv_at hl 0 rfl) ?_
  refine va_get (D := G.1) (ci := 6) (v := .ref (a 14)) (C := R_St) (T := T_St) (N := 9) hx hb hts in_St hown hK hP 0 rfl rfl 2 (by decide) (hts _ k_118) (fun _ h9 => h9) rfl d_St_stepBack_1 ?_
  refine lv_iload_n hx hb d_St_stepBack_4 rfl (lv_at hl 1 rfl) ?_
  obtain ⟨q_5, hc_5, hf⟩ := oc_e hf
  refine kcV (cc := c_St_stepBack) (own := "FloodDiary$State") (index := 184) (wc := W_Wk G (sh a 14) v.2.2.1) (wr := O_St G a v ++ (W_Pg G (sh a 1) v.1 ++ (W_Dy G (sh a 6) v.2.1 ++ (([] : va_W))))) (wc' := W_Wk G (sh a 14) v.2.2.1) (ws' := W_St G a v) hx hb hml hown hts hK hN hA hP hD hS (t_Wk_goOnOf l G (sh a 14) l1 v.2.2.1 q_5 hc_5) m_Wk_goOnOf k_385 ⟨Nat.le_of_ble_eq_true rfl, Nat.le_of_ble_eq_true rfl⟩ (pm_6 (O_St G a v) (W_Pg G (sh a 1) v.1) (W_Dy G (sh a 6) v.2.1) (W_Wk G (sh a 14) v.2.2.1)) (pm_6 (O_St G a v) (W_Pg G (sh a 1) v.1) (W_Dy G (sh a 6) v.2.1) (W_Wk G (sh a 14) v.2.2.1)).symm 7 0 rfl rfl rfl rfl rfl (Nat.le_of_ble_eq_true rfl) hl.1 d_St_stepBack_5 ⟨Nat.zero_le _, Nat.zero_le _⟩ (fun H locs hP hD hS => ?_)
  refine lv_istore_n (lv' := [(2, .int q_5), (0, .ref (a 0)), (1, .int l1)]) hx hb d_St_stepBack_8 rfl hl (by decide) rfl (fun ls hl => ?_)
  refine lv_aload_n hx hb d_St_stepBack_9 rfl (lv_at hl 1 rfl) ?_
  refine va_get (D := G.1) (ci := 6) (v := .ref (a 6)) (C := R_St) (T := T_St) (N := 9) hx hb hts in_St hown hK hP 0 rfl rfl 1 (by decide) (hts _ k_116) (fun _ h9 => h9) rfl d_St_stepBack_10 ?_
  refine lv_iload_n hx hb d_St_stepBack_13 rfl (lv_at hl 0 rfl) ?_
  obtain ⟨q_14, hc_14, hf⟩ := oc_e hf
  refine kcV (cc := c_St_stepBack) (own := "FloodDiary$State") (index := 187) (wc := W_Dy G (sh a 6) v.2.1) (wr := O_St G a v ++ (W_Pg G (sh a 1) v.1 ++ (W_Wk G (sh a 14) v.2.2.1 ++ (([] : va_W))))) (wc' := W_Dy G (sh a 6) v.2.1) (ws' := W_St G a v) hx hb hml hown hts hK hN hA hP hD hS (t_Dy_kindOf l G (sh a 6) q_5 v.2.1 q_14 hc_14) m_Dy_kindOf k_389 ⟨Nat.le_of_ble_eq_true rfl, Nat.le_of_ble_eq_true rfl⟩ (pm_7 (O_St G a v) (W_Pg G (sh a 1) v.1) (W_Dy G (sh a 6) v.2.1) (W_Wk G (sh a 14) v.2.2.1)) (pm_7 (O_St G a v) (W_Pg G (sh a 1) v.1) (W_Dy G (sh a 6) v.2.1) (W_Wk G (sh a 14) v.2.2.1)).symm 0 0 rfl rfl rfl rfl rfl (Nat.le_of_ble_eq_true rfl) hl.1 d_St_stepBack_14 ⟨Nat.zero_le _, Nat.zero_le _⟩ (fun H locs hP hD hS => ?_)
  refine lv_iconst (v := (1 : Int32)) hx hb d_St_stepBack_17 (by decide) ?_
  refine lv_icmp_ne (tgt := 56) hx hb d_St_stepBack_18 (by decide) (fun c_18 => ?_) (fun c_18 => ?_)
  · replace hf := ob_ef c_18 hf
    refine lv_aload_n hx hb d_St_stepBack_56 rfl (lv_at hl 1 rfl) ?_
    refine lv_iconst (v := (4 : Int32)) hx hb d_St_stepBack_57 (by decide) ?_
    refine lv_iload_n hx hb d_St_stepBack_58 rfl (lv_at hl 2 rfl) ?_
    obtain ⟨q_59, hc_59, hf⟩ := oc_e hf
    refine kcV (cc := c_St_stepBack) (own := "FloodDiary$State") (index := 70) (wc := W_St G a v) (wr := ([] : va_W)) (wc' := W_St G a q_59.2) (ws' := W_St G a q_59.2) hx hb hml hown hts hK hN hA hP hD hS (t_St_enter l G a (4 : Int32) l1 v q_59 hc_59) m_St_enter k_278 ⟨Nat.le_of_ble_eq_true rfl, Nat.le_of_ble_eq_true rfl⟩ (pm_0 (W_St G a v)) (pm_0 (W_St G a q_59.2)).symm 6 0 rfl rfl rfl rfl rfl (Nat.le_of_ble_eq_true rfl) hl.1 d_St_stepBack_59 ⟨Nat.zero_le _, Nat.zero_le _⟩ (fun H locs hP hD hS => ?_)
    refine lv_pop hx hb d_St_stepBack_62 rfl ?_
    cases hf
    exact kV hx hb hr hlk hP hD hS d_St_stepBack_63
  · replace hf := ob_et c_18 hf
    refine lv_aload_n hx hb d_St_stepBack_21 rfl (lv_at hl 1 rfl) ?_
    refine lv_iconst (v := (2 : Int32)) hx hb d_St_stepBack_22 (by decide) ?_
    refine lv_iload_n hx hb d_St_stepBack_23 rfl (lv_at hl 2 rfl) ?_
    refine lv_aload_n hx hb d_St_stepBack_24 rfl (lv_at hl 1 rfl) ?_
    refine va_get (D := G.1) (ci := 6) (v := .ref (a 6)) (C := R_St) (T := T_St) (N := 9) hx hb hts in_St hown hK hP 0 rfl rfl 1 (by decide) (hts _ k_116) (fun _ h9 => h9) rfl d_St_stepBack_25 ?_
    refine lv_iload_n hx hb d_St_stepBack_28 rfl (lv_at hl 0 rfl) ?_
    obtain ⟨q_29, hc_29, hf⟩ := oc_e hf
    refine kcV (cc := c_St_stepBack) (own := "FloodDiary$State") (index := 190) (wc := W_Dy G (sh a 6) v.2.1) (wr := O_St G a v ++ (W_Pg G (sh a 1) v.1 ++ (W_Wk G (sh a 14) v.2.2.1 ++ (([] : va_W))))) (wc' := W_Dy G (sh a 6) v.2.1) (ws' := W_St G a v) hx hb hml hown hts hK hN hA hP hD hS (t_Dy_pageOf l G (sh a 6) q_5 v.2.1 q_29 hc_29) m_Dy_pageOf k_401 ⟨Nat.le_of_ble_eq_true rfl, Nat.le_of_ble_eq_true rfl⟩ (pm_7 (O_St G a v) (W_Pg G (sh a 1) v.1) (W_Dy G (sh a 6) v.2.1) (W_Wk G (sh a 14) v.2.2.1)) (pm_7 (O_St G a v) (W_Pg G (sh a 1) v.1) (W_Dy G (sh a 6) v.2.1) (W_Wk G (sh a 14) v.2.2.1)).symm 0 0 rfl rfl rfl rfl rfl (Nat.le_of_ble_eq_true rfl) hl.1 d_St_stepBack_29 ⟨Nat.zero_le _, Nat.zero_le _⟩ (fun H locs hP hD hS => ?_)
    refine lv_bipush (v := (-6 : Int32)) hx hb d_St_stepBack_32 (by decide) ?_
    refine lv_aload_n hx hb d_St_stepBack_34 rfl (lv_at hl 1 rfl) ?_
    refine va_get (D := G.1) (ci := 6) (v := .ref (a 6)) (C := R_St) (T := T_St) (N := 9) hx hb hts in_St hown hK hP 0 rfl rfl 1 (by decide) (hts _ k_116) (fun _ h9 => h9) rfl d_St_stepBack_35 ?_
    refine lv_iload_n hx hb d_St_stepBack_38 rfl (lv_at hl 0 rfl) ?_
    obtain ⟨q_39, hc_39, hf⟩ := oc_e hf
    refine kcV (cc := c_St_stepBack) (own := "FloodDiary$State") (index := 193) (wc := W_Dy G (sh a 6) v.2.1) (wr := O_St G a v ++ (W_Pg G (sh a 1) v.1 ++ (W_Wk G (sh a 14) v.2.2.1 ++ (([] : va_W))))) (wc' := W_Dy G (sh a 6) v.2.1) (ws' := W_St G a v) hx hb hml hown hts hK hN hA hP hD hS (t_Dy_beforeOf l G (sh a 6) q_5 v.2.1 q_39 hc_39) m_Dy_beforeOf k_405 ⟨Nat.le_of_ble_eq_true rfl, Nat.le_of_ble_eq_true rfl⟩ (pm_7 (O_St G a v) (W_Pg G (sh a 1) v.1) (W_Dy G (sh a 6) v.2.1) (W_Wk G (sh a 14) v.2.2.1)) (pm_7 (O_St G a v) (W_Pg G (sh a 1) v.1) (W_Dy G (sh a 6) v.2.1) (W_Wk G (sh a 14) v.2.2.1)).symm 0 0 rfl rfl rfl rfl rfl (Nat.le_of_ble_eq_true rfl) hl.1 d_St_stepBack_39 ⟨Nat.zero_le _, Nat.zero_le _⟩ (fun H locs hP hD hS => ?_)
    refine lv_aload_n hx hb d_St_stepBack_42 rfl (lv_at hl 1 rfl) ?_
    refine va_get (D := G.1) (ci := 6) (v := .ref (a 6)) (C := R_St) (T := T_St) (N := 9) hx hb hts in_St hown hK hP 0 rfl rfl 1 (by decide) (hts _ k_116) (fun _ h9 => h9) rfl d_St_stepBack_43 ?_
    refine lv_iload_n hx hb d_St_stepBack_46 rfl (lv_at hl 0 rfl) ?_
    obtain ⟨q_47, hc_47, hf⟩ := oc_e hf
    refine kcV (cc := c_St_stepBack) (own := "FloodDiary$State") (index := 196) (wc := W_Dy G (sh a 6) v.2.1) (wr := O_St G a v ++ (W_Pg G (sh a 1) v.1 ++ (W_Wk G (sh a 14) v.2.2.1 ++ (([] : va_W))))) (wc' := W_Dy G (sh a 6) v.2.1) (ws' := W_St G a v) hx hb hml hown hts hK hN hA hP hD hS (t_Dy_earlierOf l G (sh a 6) q_5 v.2.1 q_47 hc_47) m_Dy_earlierOf k_393 ⟨Nat.le_of_ble_eq_true rfl, Nat.le_of_ble_eq_true rfl⟩ (pm_7 (O_St G a v) (W_Pg G (sh a 1) v.1) (W_Dy G (sh a 6) v.2.1) (W_Wk G (sh a 14) v.2.2.1)) (pm_7 (O_St G a v) (W_Pg G (sh a 1) v.1) (W_Dy G (sh a 6) v.2.1) (W_Wk G (sh a 14) v.2.2.1)).symm 0 0 rfl rfl rfl rfl rfl (Nat.le_of_ble_eq_true rfl) hl.1 d_St_stepBack_47 ⟨Nat.zero_le _, Nat.zero_le _⟩ (fun H locs hP hD hS => ?_)
    obtain ⟨q_50, hc_50, hf⟩ := oc_e hf
    refine kcVv (cc := c_St_stepBack) (own := "FloodDiary$State") (index := 95) (wc := W_St G a v) (wr := ([] : va_W)) (wc' := W_St G a q_50) (ws' := W_St G a q_50) hx hb hml hown hts hK hN hA hP hD hS (t_St_enterOnPage l G a (2 : Int32) l1 q_29 (-6 : Int32) q_39 q_47 v q_50 hc_50) m_St_enterOnPage k_345 ⟨Nat.le_of_ble_eq_true rfl, Nat.le_of_ble_eq_true rfl⟩ (pm_0 (W_St G a v)) (pm_0 (W_St G a q_50)).symm 6 0 rfl rfl rfl rfl rfl (Nat.le_of_ble_eq_true rfl) hl.1 d_St_stepBack_50 ⟨Nat.zero_le _, Nat.zero_le _⟩ (fun H locs hP hD hS => ?_)
    refine lv_goto (tgt := 63) hx hb d_St_stepBack_53 (by decide) ?_
    cases hf
    exact kV hx hb hr hlk hP hD hS d_St_stepBack_63
set_option maxHeartbeats 4000000 in
set_option maxRecDepth 100000 in
theorem t_St_stepsToTear (l : Launch) (G : GG) (a : Nat → Nat) (l1 : Int32) (v : V_St) (q : Int32) (hf : f_St_stepsToTear l1 v = some q) : MI l G y_St_stepsToTear c_St_stepsToTear 4 (some .int) (rmk 2 42) (W_St G a v) [.ref (a 0), .int l1] (W_St G a v) (q) := by
  refine ofI "FloodDiary$State" (by decide +kernel) rfl (Nat.le_of_ble_eq_true rfl) (fun p e s m args below meth c A ls hx hb hr hml hown hts hlk hK hN hA hP hD hS hl => ?_)
  have hl : lv_has ls 4 [(0, .ref (a 0)), (1, .int l1)] := hl
  have J_11 : ∀ (n_11 : Nat) (l2 : Int32) (l3 : Int32) (v : V_St) (H : Heap) (locs : List Loc) (ls : Array Slot), va_P G.1 vwCl (W_St G a v) H → va_D A (W_St G a v) → va_S A s.heap H locs → lv_has ls 4 [(0, .ref (a 0)), (2, .int l2), (3, .int l3)] → f_St_stepsToTear_11 n_11 l2 l3 v = some q → W p l e (rmk 2 42) s m args below meth c H locs 0 0 (MQ below (qI G A (W_St G a v) (q)) args s 0 0 A) (F0 m 11 ls []) := by
    intro n_11
    induction n_11 with
    | zero => intro l2 l3 v H locs ls hP hD hS hl hf; exact absurd hf (by unfold f_St_stepsToTear_11; exact fun z => by cases z)
    | succ n_11 ih_11 =>
      intro l2 l3 v H locs ls hP hD hS hl hf
      rw [f_St_stepsToTear_11] at hf
      refine lv_iload_n hx hb d_St_stepsToTear_11 rfl (lv_at hl 2 rfl) ?_
      refine lv_sipush (v := (300 : Int32)) hx hb d_St_stepsToTear_12 (by decide) ?_
      refine lv_icmp_gt (tgt := 45) hx hb d_St_stepsToTear_15 (by decide) (fun c_15 => ?_) (fun c_15 => ?_)
      · replace hf := ob_et c_15 hf
        refine lv_iload_n hx hb d_St_stepsToTear_45 rfl (lv_at hl 2 rfl) ?_
        cases hf
        exact kI hx hb hr hlk hP hD hS d_St_stepsToTear_46
      · replace hf := ob_ef c_15 hf
        refine lv_aload_n hx hb d_St_stepsToTear_18 rfl (lv_at hl 0 rfl) ?_
        refine va_get (D := G.1) (ci := 6) (v := .ref (a 6)) (C := R_St) (T := T_St) (N := 9) hx hb hts in_St hown hK hP 0 rfl rfl 1 (by decide) (hts _ k_116) (fun _ h9 => h9) rfl d_St_stepsToTear_19 ?_
        refine lv_iload_n hx hb d_St_stepsToTear_22 rfl (lv_at hl 1 rfl) ?_
        obtain ⟨q_23, hc_23, hf⟩ := oc_e hf
        refine kcV (cc := c_St_stepsToTear) (own := "FloodDiary$State") (index := 187) (wc := W_Dy G (sh a 6) v.2.1) (wr := O_St G a v ++ (W_Pg G (sh a 1) v.1 ++ (W_Wk G (sh a 14) v.2.2.1 ++ (([] : va_W))))) (wc' := W_Dy G (sh a 6) v.2.1) (ws' := W_St G a v) hx hb hml hown hts hK hN hA hP hD hS (t_Dy_kindOf l G (sh a 6) l2 v.2.1 q_23 hc_23) m_Dy_kindOf k_389 ⟨Nat.le_of_ble_eq_true rfl, Nat.le_of_ble_eq_true rfl⟩ (pm_7 (O_St G a v) (W_Pg G (sh a 1) v.1) (W_Dy G (sh a 6) v.2.1) (W_Wk G (sh a 14) v.2.2.1)) (pm_7 (O_St G a v) (W_Pg G (sh a 1) v.1) (W_Dy G (sh a 6) v.2.1) (W_Wk G (sh a 14) v.2.2.1)).symm 0 0 rfl rfl rfl rfl rfl (Nat.le_of_ble_eq_true rfl) hl.1 d_St_stepsToTear_23 ⟨Nat.zero_le _, Nat.zero_le _⟩ (fun H locs hP hD hS => ?_)
        refine lv_iconst (v := (1 : Int32)) hx hb d_St_stepsToTear_26 (by decide) ?_
        refine lv_icmp_ne (tgt := 45) hx hb d_St_stepsToTear_27 (by decide) (fun c_27 => ?_) (fun c_27 => ?_)
        · replace hf := ob_ef c_27 hf
          refine lv_iload_n hx hb d_St_stepsToTear_45 rfl (lv_at hl 2 rfl) ?_
          cases hf
          exact kI hx hb hr hlk hP hD hS d_St_stepsToTear_46
        · replace hf := ob_et c_27 hf
          refine lv_aload_n hx hb d_St_stepsToTear_30 rfl (lv_at hl 0 rfl) ?_
          refine va_get (D := G.1) (ci := 6) (v := .ref (a 6)) (C := R_St) (T := T_St) (N := 9) hx hb hts in_St hown hK hP 0 rfl rfl 1 (by decide) (hts _ k_116) (fun _ h9 => h9) rfl d_St_stepsToTear_31 ?_
          refine lv_iload_n hx hb d_St_stepsToTear_34 rfl (lv_at hl 1 rfl) ?_
          obtain ⟨q_35, hc_35, hf⟩ := oc_e hf
          refine kcV (cc := c_St_stepsToTear) (own := "FloodDiary$State") (index := 196) (wc := W_Dy G (sh a 6) v.2.1) (wr := O_St G a v ++ (W_Pg G (sh a 1) v.1 ++ (W_Wk G (sh a 14) v.2.2.1 ++ (([] : va_W))))) (wc' := W_Dy G (sh a 6) v.2.1) (ws' := W_St G a v) hx hb hml hown hts hK hN hA hP hD hS (t_Dy_earlierOf l G (sh a 6) l2 v.2.1 q_35 hc_35) m_Dy_earlierOf k_393 ⟨Nat.le_of_ble_eq_true rfl, Nat.le_of_ble_eq_true rfl⟩ (pm_7 (O_St G a v) (W_Pg G (sh a 1) v.1) (W_Dy G (sh a 6) v.2.1) (W_Wk G (sh a 14) v.2.2.1)) (pm_7 (O_St G a v) (W_Pg G (sh a 1) v.1) (W_Dy G (sh a 6) v.2.1) (W_Wk G (sh a 14) v.2.2.1)).symm 0 0 rfl rfl rfl rfl rfl (Nat.le_of_ble_eq_true rfl) hl.1 d_St_stepsToTear_35 ⟨Nat.zero_le _, Nat.zero_le _⟩ (fun H locs hP hD hS => ?_)
          refine lv_istore_n (lv' := [(2, .int q_35), (0, .ref (a 0)), (3, .int l3)]) hx hb d_St_stepsToTear_38 rfl hl (by decide) rfl (fun ls hl => ?_)
          refine lv_iinc (v := (l3 + (1 : Int32))) (lv' := [(3, .int (l3 + (1 : Int32))), (2, .int q_35), (0, .ref (a 0))]) hx hb d_St_stepsToTear_39 hl (k := 2) rfl rfl (by decide) rfl (fun ls hl => ?_)
          refine lv_goto (tgt := 11) hx hb d_St_stepsToTear_42 (by decide) ?_
          exact ih_11 q_35 (l3 + (1 : Int32)) v _ _ ls hP hD hS (lv_sub hl [2, 1, 0] rfl) hf
  unfold f_St_stepsToTear at hf
  refine lv_aload_n hx hb d_St_stepsToTear_0 rfl (lv_at hl 0 rfl) ?_
  refine va_get (D := G.1) (ci := 6) (v := .ref (a 14)) (C := R_St) (T := T_St) (N := 9) hx hb hts in_St hown hK hP 0 rfl rfl 2 (by decide) (hts _ k_118) (fun _ h9 => h9) rfl d_St_stepsToTear_1 ?_
  refine lv_iload_n hx hb d_St_stepsToTear_4 rfl (lv_at hl 1 rfl) ?_
  obtain ⟨q_5, hc_5, hf⟩ := oc_e hf
  refine kcV (cc := c_St_stepsToTear) (own := "FloodDiary$State") (index := 184) (wc := W_Wk G (sh a 14) v.2.2.1) (wr := O_St G a v ++ (W_Pg G (sh a 1) v.1 ++ (W_Dy G (sh a 6) v.2.1 ++ (([] : va_W))))) (wc' := W_Wk G (sh a 14) v.2.2.1) (ws' := W_St G a v) hx hb hml hown hts hK hN hA hP hD hS (t_Wk_goOnOf l G (sh a 14) l1 v.2.2.1 q_5 hc_5) m_Wk_goOnOf k_385 ⟨Nat.le_of_ble_eq_true rfl, Nat.le_of_ble_eq_true rfl⟩ (pm_6 (O_St G a v) (W_Pg G (sh a 1) v.1) (W_Dy G (sh a 6) v.2.1) (W_Wk G (sh a 14) v.2.2.1)) (pm_6 (O_St G a v) (W_Pg G (sh a 1) v.1) (W_Dy G (sh a 6) v.2.1) (W_Wk G (sh a 14) v.2.2.1)).symm 7 0 rfl rfl rfl rfl rfl (Nat.le_of_ble_eq_true rfl) hl.1 d_St_stepsToTear_5 ⟨Nat.zero_le _, Nat.zero_le _⟩ (fun H locs hP hD hS => ?_)
  refine lv_istore_n (lv' := [(2, .int q_5), (0, .ref (a 0)), (1, .int l1)]) hx hb d_St_stepsToTear_8 rfl hl (by decide) rfl (fun ls hl => ?_)
  refine lv_iconst (v := (1 : Int32)) hx hb d_St_stepsToTear_9 (by decide) ?_
  refine lv_istore_n (lv' := [(3, .int (1 : Int32)), (2, .int q_5), (0, .ref (a 0)), (1, .int l1)]) hx hb d_St_stepsToTear_10 rfl hl (by decide) rfl (fun ls hl => ?_)
  exact J_11 FU q_5 (1 : Int32) v _ _ ls hP hD hS (lv_sub hl [2, 1, 0] rfl) hf
theorem pm_9 (x0 x1 x2 x3 : va_W) : List.Perm (x0 ++ (x1 ++ (x2 ++ (x3 ++ (([] : va_W)))))) ((x3 ++ x2) ++ (x0 ++ (x1 ++ (([] : va_W))))) := prm (fun d z => by first | (simp only [List.count_append, List.count_nil]; omega) | simp only [List.count_append, List.count_nil])
set_option maxHeartbeats 4000000 in
set_option maxRecDepth 100000 in
theorem t_St_loseEntries (l : Launch) (G : GG) (a : Nat → Nat) (l1 : Int32) (v : V_St) (q : V_St) (hf : f_St_loseEntries l1 v = some q) : MV l G y_St_loseEntries c_St_loseEntries 2 (rmk 3 69) (W_St G a v) [.ref (a 0), .int l1] (W_St G a q) := by
  refine ofV "FloodDiary$State" (by decide +kernel) rfl (Nat.le_of_ble_eq_true rfl) (fun p e s m args below meth c A ls hx hb hr hml hown hts hlk hK hN hA hP hD hS hl => ?_)
  have hl : lv_has ls 2 [(0, .ref (a 0)), (1, .int l1)] := hl
  unfold f_St_loseEntries at hf
  refine lv_aload_n hx hb d_St_loseEntries_0 rfl (lv_at hl 0 rfl) ?_
  refine va_get (D := G.1) (ci := 6) (v := .ref (a 6)) (C := R_St) (T := T_St) (N := 9) hx hb hts in_St hown hK hP 0 rfl rfl 1 (by decide) (hts _ k_116) (fun _ h9 => h9) rfl d_St_loseEntries_1 ?_
  refine lv_iload_n hx hb d_St_loseEntries_4 rfl (lv_at hl 1 rfl) ?_
  obtain ⟨q_5, hc_5, hf⟩ := oc_e hf
  refine kcVv (cc := c_St_loseEntries) (own := "FloodDiary$State") (index := 199) (wc := W_Dy G (sh a 6) v.2.1) (wr := O_St G a v ++ (W_Pg G (sh a 1) v.1 ++ (W_Wk G (sh a 14) v.2.2.1 ++ (([] : va_W))))) (wc' := W_Dy G (sh a 6) q_5) (ws' := W_St G a (v.1, q_5, v.2.2.1, v.2.2.2.1, v.2.2.2.2.1, v.2.2.2.2.2.1, v.2.2.2.2.2.2.1, v.2.2.2.2.2.2.2.1, v.2.2.2.2.2.2.2.2)) hx hb hml hown hts hK hN hA hP hD hS (t_Dy_lose l G (sh a 6) l1 v.2.1 q_5 hc_5) m_Dy_lose k_451 ⟨Nat.le_of_ble_eq_true rfl, Nat.le_of_ble_eq_true rfl⟩ (pm_7 (O_St G a v) (W_Pg G (sh a 1) v.1) (W_Dy G (sh a 6) v.2.1) (W_Wk G (sh a 14) v.2.2.1)) (pm_7 (O_St G a (v.1, q_5, v.2.2.1, v.2.2.2.1, v.2.2.2.2.1, v.2.2.2.2.2.1, v.2.2.2.2.2.2.1, v.2.2.2.2.2.2.2.1, v.2.2.2.2.2.2.2.2)) (W_Pg G (sh a 1) v.1) (W_Dy G (sh a 6) q_5) (W_Wk G (sh a 14) v.2.2.1)).symm 0 0 rfl rfl rfl rfl rfl (Nat.le_of_ble_eq_true rfl) hl.1 d_St_loseEntries_5 ⟨Nat.zero_le _, Nat.zero_le _⟩ (fun H locs hP hD hS => ?_)
  refine lv_aload_n hx hb d_St_loseEntries_8 rfl (lv_at hl 0 rfl) ?_
  refine lv_dup hx hb d_St_loseEntries_9 rfl ?_
  refine va_get (D := G.1) (ci := 6) (v := .int v.2.2.2.2.2.2.2.2) (C := R_St) (T := T_St) (N := 9) hx hb hts in_St hown hK hP 0 rfl rfl 8 (by decide) (hts _ k_126) (fun _ h9 => h9) rfl d_St_loseEntries_10 ?_
  refine lv_iload_n hx hb d_St_loseEntries_13 rfl (lv_at hl 1 rfl) ?_
  refine lv_iadd hx hb d_St_loseEntries_14 ?_
  refine va_put (D := G.1) (ci := 6) (v := .int (v.2.2.2.2.2.2.2.2 + l1)) (ty := .int) (C := R_St) (T := T_St) (N := 9) hx hb hts in_St ty_St ty_St_ok nm_St hown hK hP hD hS 0 rfl rfl 8 (by decide) (hts _ k_126) (fun _ h9 => h9) rfl (ty_St_ok 8 (by decide)) rfl rfl (Nat.le_of_ble_eq_true rfl) d_St_loseEntries_15 (fun H locs hP hD hS => ?_)
  have hP : va_P G.1 vwCl (W_St G a (v.1, q_5, v.2.2.1, v.2.2.2.1, v.2.2.2.2.1, v.2.2.2.2.2.1, v.2.2.2.2.2.2.1, v.2.2.2.2.2.2.2.1, (v.2.2.2.2.2.2.2.2 + l1))) H := hP
  have hD : va_D A (W_St G a (v.1, q_5, v.2.2.1, v.2.2.2.1, v.2.2.2.2.1, v.2.2.2.2.2.1, v.2.2.2.2.2.2.1, v.2.2.2.2.2.2.2.1, (v.2.2.2.2.2.2.2.2 + l1))) := hD
  refine lv_aload_n hx hb d_St_loseEntries_18 rfl (lv_at hl 0 rfl) ?_
  refine va_get (D := G.1) (ci := 6) (v := .ref (a 14)) (C := R_St) (T := T_St) (N := 9) hx hb hts in_St hown hK hP 0 rfl rfl 2 (by decide) (hts _ k_118) (fun _ h9 => h9) rfl d_St_loseEntries_19 ?_
  refine lv_aload_n hx hb d_St_loseEntries_22 rfl (lv_at hl 0 rfl) ?_
  refine va_get (D := G.1) (ci := 6) (v := .ref (a 6)) (C := R_St) (T := T_St) (N := 9) hx hb hts in_St hown hK hP 0 rfl rfl 1 (by decide) (hts _ k_116) (fun _ h9 => h9) rfl d_St_loseEntries_23 ?_
  obtain ⟨q_26, hc_26, hf⟩ := oc_e hf
  refine kcVv (cc := c_St_loseEntries) (own := "FloodDiary$State") (index := 202) (wc := W_Wk G (sh a 14) v.2.2.1 ++ W_Dy G (sh a 6) q_5) (wr := O_St G a (v.1, q_5, v.2.2.1, v.2.2.2.1, v.2.2.2.2.1, v.2.2.2.2.2.1, v.2.2.2.2.2.2.1, v.2.2.2.2.2.2.2.1, (v.2.2.2.2.2.2.2.2 + l1)) ++ (W_Pg G (sh a 1) v.1 ++ (([] : va_W)))) (wc' := W_Wk G (sh a 14) q_26 ++ W_Dy G (sh a 6) q_5) (ws' := W_St G a (v.1, q_5, q_26, v.2.2.2.1, v.2.2.2.2.1, v.2.2.2.2.2.1, v.2.2.2.2.2.2.1, v.2.2.2.2.2.2.2.1, (v.2.2.2.2.2.2.2.2 + l1))) hx hb hml hown hts hK hN hA hP hD hS (t_Wk_readAnew l G (sh a 14) (sh a 6) v.2.2.1 q_5 q_26 hc_26) m_Wk_readAnew k_458 ⟨Nat.le_of_ble_eq_true rfl, Nat.le_of_ble_eq_true rfl⟩ (pm_9 (O_St G a (v.1, q_5, v.2.2.1, v.2.2.2.1, v.2.2.2.2.1, v.2.2.2.2.2.1, v.2.2.2.2.2.2.1, v.2.2.2.2.2.2.2.1, (v.2.2.2.2.2.2.2.2 + l1))) (W_Pg G (sh a 1) v.1) (W_Dy G (sh a 6) q_5) (W_Wk G (sh a 14) v.2.2.1)) (pm_9 (O_St G a (v.1, q_5, q_26, v.2.2.2.1, v.2.2.2.2.1, v.2.2.2.2.2.1, v.2.2.2.2.2.2.1, v.2.2.2.2.2.2.2.1, (v.2.2.2.2.2.2.2.2 + l1))) (W_Pg G (sh a 1) v.1) (W_Dy G (sh a 6) q_5) (W_Wk G (sh a 14) q_26)).symm 7 0 rfl rfl rfl rfl rfl (Nat.le_of_ble_eq_true rfl) hl.1 d_St_loseEntries_26 ⟨Nat.zero_le _, Nat.zero_le _⟩ (fun H locs hP hD hS => ?_)
  cases hf
  exact kV hx hb hr hlk hP hD hS d_St_loseEntries_29
set_option maxHeartbeats 4000000 in
set_option maxRecDepth 100000 in
theorem t_St_findAgain (l : Launch) (G : GG) (a : Nat → Nat) (v : V_St) (q : Int32 × V_St) (hf : f_St_findAgain v = some q) : MI l G y_St_findAgain c_St_findAgain 1 (some .boolean) (rmk 2 42) (W_St G a v) [.ref (a 0)] (W_St G a q.2) (q.1) := by
  refine ofI "FloodDiary$State" (by decide +kernel) rfl (Nat.le_of_ble_eq_true rfl) (fun p e s m args below meth c A ls hx hb hr hml hown hts hlk hK hN hA hP hD hS hl => ?_)
  have hl : lv_has ls 1 [(0, .ref (a 0))] := hl
  have J_0 : ∀ (n_0 : Nat) (v : V_St) (H : Heap) (locs : List Loc) (ls : Array Slot), va_P G.1 vwCl (W_St G a v) H → va_D A (W_St G a v) → va_S A s.heap H locs → lv_has ls 1 [(0, .ref (a 0))] → f_St_findAgain_0 n_0 v = some q → W p l e (rmk 2 42) s m args below meth c H locs 0 0 (MQ below (qI G A (W_St G a q.2) (q.1)) args s 0 0 A) (F0 m 0 ls []) := by
    intro n_0
    induction n_0 with
    | zero => intro v H locs ls hP hD hS hl hf; exact absurd hf (by unfold f_St_findAgain_0; exact fun z => by cases z)
    | succ n_0 ih_0 =>
      intro v H locs ls hP hD hS hl hf
      rw [f_St_findAgain_0] at hf
      refine lv_aload_n hx hb d_St_findAgain_0 rfl (lv_at hl 0 rfl) ?_
      refine va_get (D := G.1) (ci := 6) (v := .int v.2.2.2.2.2.1) (C := R_St) (T := T_St) (N := 9) hx hb hts in_St hown hK hP 0 rfl rfl 5 (by decide) (hts _ k_123) (fun _ h9 => h9) rfl d_St_findAgain_1 ?_
      refine lv_aload_n hx hb d_St_findAgain_4 rfl (lv_at hl 0 rfl) ?_
      refine va_get (D := G.1) (ci := 6) (v := .ref (a 6)) (C := R_St) (T := T_St) (N := 9) hx hb hts in_St hown hK hP 0 rfl rfl 1 (by decide) (hts _ k_116) (fun _ h9 => h9) rfl d_St_findAgain_5 ?_
      refine va_getN (D := G.1) (ci := 0) (v := .int v.2.1.2.2.2.2.2.2.2.2) (C := R_Dy) (T := T_Dy) (N := 9) (host := "FloodDiary") hx hb hts in_Dy hown hK hP 6 rfl rfl 8 (by decide) (va_Nw.use rfl (hN.1 _ nsF_3)) (fun _ h9 => h9) rfl d_St_findAgain_8 ?_
      refine lv_icmp_gt (tgt := 44) hx hb d_St_findAgain_11 (by decide) (fun c_11 => ?_) (fun c_11 => ?_)
      · replace hf := ob_et c_11 hf
        refine lv_aload_n hx hb d_St_findAgain_44 rfl (lv_at hl 0 rfl) ?_
        refine va_get (D := G.1) (ci := 6) (v := .int v.2.2.2.2.2.1) (C := R_St) (T := T_St) (N := 9) hx hb hts in_St hown hK hP 0 rfl rfl 5 (by decide) (hts _ k_123) (fun _ h9 => h9) rfl d_St_findAgain_45 ?_
        refine lv_aload_n hx hb d_St_findAgain_48 rfl (lv_at hl 0 rfl) ?_
        refine va_get (D := G.1) (ci := 6) (v := .ref (a 6)) (C := R_St) (T := T_St) (N := 9) hx hb hts in_St hown hK hP 0 rfl rfl 1 (by decide) (hts _ k_116) (fun _ h9 => h9) rfl d_St_findAgain_49 ?_
        refine va_getN (D := G.1) (ci := 0) (v := .int v.2.1.2.2.2.2.2.2.2.2) (C := R_Dy) (T := T_Dy) (N := 9) (host := "FloodDiary") hx hb hts in_Dy hown hK hP 6 rfl rfl 8 (by decide) (va_Nw.use rfl (hN.1 _ nsF_3)) (fun _ h9 => h9) rfl d_St_findAgain_52 ?_
        refine lv_icmp_gt (tgt := 62) hx hb d_St_findAgain_55 (by decide) (fun c_55 => ?_) (fun c_55 => ?_)
        · replace hf := ob_et c_55 hf
          refine lv_iconst (v := (0 : Int32)) hx hb d_St_findAgain_62 (by decide) ?_
          cases hf
          exact kZ hx hb hr hlk hP hD hS (Or.inl rfl) d_St_findAgain_63
        · replace hf := ob_ef c_55 hf
          refine lv_iconst (v := (1 : Int32)) hx hb d_St_findAgain_58 (by decide) ?_
          refine lv_goto (tgt := 63) hx hb d_St_findAgain_59 (by decide) ?_
          cases hf
          exact kZ hx hb hr hlk hP hD hS (Or.inr rfl) d_St_findAgain_63
      · replace hf := ob_ef c_11 hf
        refine lv_aload_n hx hb d_St_findAgain_14 rfl (lv_at hl 0 rfl) ?_
        refine va_get (D := G.1) (ci := 6) (v := .ref (a 6)) (C := R_St) (T := T_St) (N := 9) hx hb hts in_St hown hK hP 0 rfl rfl 1 (by decide) (hts _ k_116) (fun _ h9 => h9) rfl d_St_findAgain_15 ?_
        refine lv_aload_n hx hb d_St_findAgain_18 rfl (lv_at hl 0 rfl) ?_
        refine va_get (D := G.1) (ci := 6) (v := .int v.2.2.2.2.2.1) (C := R_St) (T := T_St) (N := 9) hx hb hts in_St hown hK hP 0 rfl rfl 5 (by decide) (hts _ k_123) (fun _ h9 => h9) rfl d_St_findAgain_19 ?_
        obtain ⟨q_22, hc_22, hf⟩ := oc_e hf
        refine kcV (cc := c_St_findAgain) (own := "FloodDiary$State") (index := 187) (wc := W_Dy G (sh a 6) v.2.1) (wr := O_St G a v ++ (W_Pg G (sh a 1) v.1 ++ (W_Wk G (sh a 14) v.2.2.1 ++ (([] : va_W))))) (wc' := W_Dy G (sh a 6) v.2.1) (ws' := W_St G a v) hx hb hml hown hts hK hN hA hP hD hS (t_Dy_kindOf l G (sh a 6) v.2.2.2.2.2.1 v.2.1 q_22 hc_22) m_Dy_kindOf k_389 ⟨Nat.le_of_ble_eq_true rfl, Nat.le_of_ble_eq_true rfl⟩ (pm_7 (O_St G a v) (W_Pg G (sh a 1) v.1) (W_Dy G (sh a 6) v.2.1) (W_Wk G (sh a 14) v.2.2.1)) (pm_7 (O_St G a v) (W_Pg G (sh a 1) v.1) (W_Dy G (sh a 6) v.2.1) (W_Wk G (sh a 14) v.2.2.1)).symm 0 0 rfl rfl rfl rfl rfl (Nat.le_of_ble_eq_true rfl) hl.1 d_St_findAgain_22 ⟨Nat.zero_le _, Nat.zero_le _⟩ (fun H locs hP hD hS => ?_)
        obtain ⟨q_25, hc_25, hf⟩ := oc_e hf
        refine kcSN (cc := c_St_findAgain) (own := "FloodDiary$State") (index := 205) (wc := ([] : va_W)) (wr := W_St G a v) (wc' := ([] : va_W)) (ws' := W_St G a v) hx hb hml hown hts hK hN hA hP hD hS (t_Fd_isChange l G q_22 q_25 hc_25) m_Fd_isChange nsM_11 ⟨Nat.le_of_ble_eq_true rfl, Nat.le_of_ble_eq_true rfl⟩ (List.Perm.refl _) (List.Perm.refl _) rfl rfl (Nat.le_of_ble_eq_true rfl) hl.1 d_St_findAgain_25 ⟨Nat.zero_le _, Nat.zero_le _⟩ (fun H locs hP hD hS => ?_)
        refine lv_if_ne (tgt := 44) hx hb d_St_findAgain_28 (by decide) (fun c_28 => ?_) (fun c_28 => ?_)
        · replace hf := ob_ef c_28 hf
          refine lv_aload_n hx hb d_St_findAgain_44 rfl (lv_at hl 0 rfl) ?_
          refine va_get (D := G.1) (ci := 6) (v := .int v.2.2.2.2.2.1) (C := R_St) (T := T_St) (N := 9) hx hb hts in_St hown hK hP 0 rfl rfl 5 (by decide) (hts _ k_123) (fun _ h9 => h9) rfl d_St_findAgain_45 ?_
          refine lv_aload_n hx hb d_St_findAgain_48 rfl (lv_at hl 0 rfl) ?_
          refine va_get (D := G.1) (ci := 6) (v := .ref (a 6)) (C := R_St) (T := T_St) (N := 9) hx hb hts in_St hown hK hP 0 rfl rfl 1 (by decide) (hts _ k_116) (fun _ h9 => h9) rfl d_St_findAgain_49 ?_
          refine va_getN (D := G.1) (ci := 0) (v := .int v.2.1.2.2.2.2.2.2.2.2) (C := R_Dy) (T := T_Dy) (N := 9) (host := "FloodDiary") hx hb hts in_Dy hown hK hP 6 rfl rfl 8 (by decide) (va_Nw.use rfl (hN.1 _ nsF_3)) (fun _ h9 => h9) rfl d_St_findAgain_52 ?_
          refine lv_icmp_gt (tgt := 62) hx hb d_St_findAgain_55 (by decide) (fun c_55 => ?_) (fun c_55 => ?_)
          · replace hf := ob_et c_55 hf
            refine lv_iconst (v := (0 : Int32)) hx hb d_St_findAgain_62 (by decide) ?_
            cases hf
            exact kZ hx hb hr hlk hP hD hS (Or.inl rfl) d_St_findAgain_63
          · replace hf := ob_ef c_55 hf
            refine lv_iconst (v := (1 : Int32)) hx hb d_St_findAgain_58 (by decide) ?_
            refine lv_goto (tgt := 63) hx hb d_St_findAgain_59 (by decide) ?_
            cases hf
            exact kZ hx hb hr hlk hP hD hS (Or.inr rfl) d_St_findAgain_63
        · replace hf := ob_et c_28 hf
          refine lv_aload_n hx hb d_St_findAgain_31 rfl (lv_at hl 0 rfl) ?_
          refine lv_dup hx hb d_St_findAgain_32 rfl ?_
          refine va_get (D := G.1) (ci := 6) (v := .int v.2.2.2.2.2.1) (C := R_St) (T := T_St) (N := 9) hx hb hts in_St hown hK hP 0 rfl rfl 5 (by decide) (hts _ k_123) (fun _ h9 => h9) rfl d_St_findAgain_33 ?_
          refine lv_iconst (v := (1 : Int32)) hx hb d_St_findAgain_36 (by decide) ?_
          refine lv_iadd hx hb d_St_findAgain_37 ?_
          refine va_put (D := G.1) (ci := 6) (v := .int (v.2.2.2.2.2.1 + (1 : Int32))) (ty := .int) (C := R_St) (T := T_St) (N := 9) hx hb hts in_St ty_St ty_St_ok nm_St hown hK hP hD hS 0 rfl rfl 5 (by decide) (hts _ k_123) (fun _ h9 => h9) rfl (ty_St_ok 5 (by decide)) rfl rfl (Nat.le_of_ble_eq_true rfl) d_St_findAgain_38 (fun H locs hP hD hS => ?_)
          have hP : va_P G.1 vwCl (W_St G a (v.1, v.2.1, v.2.2.1, v.2.2.2.1, v.2.2.2.2.1, (v.2.2.2.2.2.1 + (1 : Int32)), v.2.2.2.2.2.2.1, v.2.2.2.2.2.2.2.1, v.2.2.2.2.2.2.2.2)) H := hP
          have hD : va_D A (W_St G a (v.1, v.2.1, v.2.2.1, v.2.2.2.1, v.2.2.2.2.1, (v.2.2.2.2.2.1 + (1 : Int32)), v.2.2.2.2.2.2.1, v.2.2.2.2.2.2.2.1, v.2.2.2.2.2.2.2.2)) := hD
          refine lv_goto (tgt := 0) hx hb d_St_findAgain_41 (by decide) ?_
          exact ih_0 (v.1, v.2.1, v.2.2.1, v.2.2.2.1, v.2.2.2.2.1, (v.2.2.2.2.2.1 + (1 : Int32)), v.2.2.2.2.2.2.1, v.2.2.2.2.2.2.2.1, v.2.2.2.2.2.2.2.2) _ _ ls hP hD hS (lv_sub hl [0] rfl) hf
  unfold f_St_findAgain at hf
  exact J_0 FU v _ _ ls hP hD hS (lv_sub hl [0] rfl) hf
set_option maxHeartbeats 4000000 in
set_option maxRecDepth 100000 in
theorem t_St_isAnythingLeft (l : Launch) (G : GG) (a : Nat → Nat) (v : V_St) (q : Int32 × V_St) (hf : f_St_isAnythingLeft v = some q) : MI l G y_St_isAnythingLeft c_St_isAnythingLeft 1 (some .boolean) (rmk 3 64) (W_St G a v) [.ref (a 0)] (W_St G a q.2) (q.1) := by
  refine ofI "FloodDiary$State" (by decide +kernel) rfl (Nat.le_of_ble_eq_true rfl) (fun p e s m args below meth c A ls hx hb hr hml hown hts hlk hK hN hA hP hD hS hl => ?_)
  have hl : lv_has ls 1 [(0, .ref (a 0))] := hl
  unfold f_St_isAnythingLeft at hf
  refine lv_aload_n hx hb d_St_isAnythingLeft_0 rfl (lv_at hl 0 rfl) ?_
  obtain ⟨q_1, hc_1, hf⟩ := oc_e hf
  refine kcV (cc := c_St_isAnythingLeft) (own := "FloodDiary$State") (index := 135) (wc := W_St G a v) (wr := ([] : va_W)) (wc' := W_St G a q_1.2) (ws' := W_St G a q_1.2) hx hb hml hown hts hK hN hA hP hD hS (t_St_findAgain l G a v q_1 hc_1) m_St_findAgain k_498 ⟨Nat.le_of_ble_eq_true rfl, Nat.le_of_ble_eq_true rfl⟩ (pm_0 (W_St G a v)) (pm_0 (W_St G a q_1.2)).symm 6 0 rfl rfl rfl rfl rfl (Nat.le_of_ble_eq_true rfl) hl.1 d_St_isAnythingLeft_1 ⟨Nat.zero_le _, Nat.zero_le _⟩ (fun H locs hP hD hS => ?_)
  refine lv_if_ne (tgt := 19) hx hb d_St_isAnythingLeft_4 (by decide) (fun c_4 => ?_) (fun c_4 => ?_)
  · replace hf := ob_ef c_4 hf
    refine lv_iconst (v := (1 : Int32)) hx hb d_St_isAnythingLeft_19 (by decide) ?_
    refine lv_goto (tgt := 24) hx hb d_St_isAnythingLeft_20 (by decide) ?_
    cases hf
    exact kZ hx hb hr hlk hP hD hS (Or.inr rfl) d_St_isAnythingLeft_24
  · replace hf := ob_et c_4 hf
    refine lv_aload_n hx hb d_St_isAnythingLeft_7 rfl (lv_at hl 0 rfl) ?_
    refine va_get (D := G.1) (ci := 6) (v := .ref (a 14)) (C := R_St) (T := T_St) (N := 9) hx hb hts in_St hown hK hP 0 rfl rfl 2 (by decide) (hts _ k_118) (fun _ h9 => h9) rfl d_St_isAnythingLeft_8 ?_
    obtain ⟨q_11, hc_11, hf⟩ := oc_e hf
    refine kcV (cc := c_St_isAnythingLeft) (own := "FloodDiary$State") (index := 141) (wc := W_Wk G (sh a 14) q_1.2.2.2.1) (wr := O_St G a q_1.2 ++ (W_Pg G (sh a 1) q_1.2.1 ++ (W_Dy G (sh a 6) q_1.2.2.1 ++ (([] : va_W))))) (wc' := W_Wk G (sh a 14) q_1.2.2.2.1) (ws' := W_St G a q_1.2) hx hb hml hown hts hK hN hA hP hD hS (t_Wk_nextToTakeBack l G (sh a 14) q_1.2.2.2.1 q_11 hc_11) m_Wk_nextToTakeBack k_505 ⟨Nat.le_of_ble_eq_true rfl, Nat.le_of_ble_eq_true rfl⟩ (pm_6 (O_St G a q_1.2) (W_Pg G (sh a 1) q_1.2.1) (W_Dy G (sh a 6) q_1.2.2.1) (W_Wk G (sh a 14) q_1.2.2.2.1)) (pm_6 (O_St G a q_1.2) (W_Pg G (sh a 1) q_1.2.1) (W_Dy G (sh a 6) q_1.2.2.1) (W_Wk G (sh a 14) q_1.2.2.2.1)).symm 7 0 rfl rfl rfl rfl rfl (Nat.le_of_ble_eq_true rfl) hl.1 d_St_isAnythingLeft_11 ⟨Nat.zero_le _, Nat.zero_le _⟩ (fun H locs hP hD hS => ?_)
    refine lv_bipush (v := (-6 : Int32)) hx hb d_St_isAnythingLeft_14 (by decide) ?_
    refine lv_icmp_eq (tgt := 23) hx hb d_St_isAnythingLeft_16 (by decide) (fun c_16 => ?_) (fun c_16 => ?_)
    · replace hf := ob_et c_16 hf
      refine lv_iconst (v := (0 : Int32)) hx hb d_St_isAnythingLeft_23 (by decide) ?_
      cases hf
      exact kZ hx hb hr hlk hP hD hS (Or.inl rfl) d_St_isAnythingLeft_24
    · replace hf := ob_ef c_16 hf
      refine lv_iconst (v := (1 : Int32)) hx hb d_St_isAnythingLeft_19 (by decide) ?_
      refine lv_goto (tgt := 24) hx hb d_St_isAnythingLeft_20 (by decide) ?_
      cases hf
      exact kZ hx hb hr hlk hP hD hS (Or.inr rfl) d_St_isAnythingLeft_24
set_option maxHeartbeats 4000000 in
set_option maxRecDepth 100000 in
theorem t_St_doAgain (l : Launch) (G : GG) (a : Nat → Nat) (l1 : Int32) (v : V_St) (q : V_St) (hf : f_St_doAgain l1 v = some q) : MV l G y_St_doAgain c_St_doAgain 3 (rmk 3 64) (W_St G a v) [.ref (a 0), .int l1] (W_St G a q) := by
  refine ofV "FloodDiary$State" (by decide +kernel) rfl (Nat.le_of_ble_eq_true rfl) (fun p e s m args below meth c A ls hx hb hr hml hown hts hlk hK hN hA hP hD hS hl => ?_)
  have hl : lv_has ls 3 [(0, .ref (a 0)), (1, .int l1)] := hl
  unfold f_St_doAgain at hf
  refine lv_aload_n hx hb d_St_doAgain_0 rfl (lv_at hl 0 rfl) ?_
  refine va_get (D := G.1) (ci := 6) (v := .ref (a 6)) (C := R_St) (T := T_St) (N := 9) hx hb hts in_St hown hK hP 0 rfl rfl 1 (by decide) (hts _ k_116) (fun _ h9 => h9) rfl d_St_doAgain_1 ?_
  refine lv_iload_n hx hb d_St_doAgain_4 rfl (lv_at hl 1 rfl) ?_
  obtain ⟨q_5, hc_5, hf⟩ := oc_e hf
  refine kcV (cc := c_St_doAgain) (own := "FloodDiary$State") (index := 190) (wc := W_Dy G (sh a 6) v.2.1) (wr := O_St G a v ++ (W_Pg G (sh a 1) v.1 ++ (W_Wk G (sh a 14) v.2.2.1 ++ (([] : va_W))))) (wc' := W_Dy G (sh a 6) v.2.1) (ws' := W_St G a v) hx hb hml hown hts hK hN hA hP hD hS (t_Dy_pageOf l G (sh a 6) l1 v.2.1 q_5 hc_5) m_Dy_pageOf k_401 ⟨Nat.le_of_ble_eq_true rfl, Nat.le_of_ble_eq_true rfl⟩ (pm_7 (O_St G a v) (W_Pg G (sh a 1) v.1) (W_Dy G (sh a 6) v.2.1) (W_Wk G (sh a 14) v.2.2.1)) (pm_7 (O_St G a v) (W_Pg G (sh a 1) v.1) (W_Dy G (sh a 6) v.2.1) (W_Wk G (sh a 14) v.2.2.1)).symm 0 0 rfl rfl rfl rfl rfl (Nat.le_of_ble_eq_true rfl) hl.1 d_St_doAgain_5 ⟨Nat.zero_le _, Nat.zero_le _⟩ (fun H locs hP hD hS => ?_)
  refine lv_istore_n (lv' := [(2, .int q_5), (0, .ref (a 0)), (1, .int l1)]) hx hb d_St_doAgain_8 rfl hl (by decide) rfl (fun ls hl => ?_)
  refine lv_aload_n hx hb d_St_doAgain_9 rfl (lv_at hl 1 rfl) ?_
  refine va_get (D := G.1) (ci := 6) (v := .ref (a 1)) (C := R_St) (T := T_St) (N := 9) hx hb hts in_St hown hK hP 0 rfl rfl 0 (by decide) (hts _ k_114) (fun _ h9 => h9) rfl d_St_doAgain_10 ?_
  refine lv_iload_n hx hb d_St_doAgain_13 rfl (lv_at hl 0 rfl) ?_
  obtain ⟨q_14, hc_14, hf⟩ := oc_e hf
  refine kcVv (cc := c_St_doAgain) (own := "FloodDiary$State") (index := 88) (wc := W_Pg G (sh a 1) v.1) (wr := O_St G a v ++ (W_Dy G (sh a 6) v.2.1 ++ (W_Wk G (sh a 14) v.2.2.1 ++ (([] : va_W))))) (wc' := W_Pg G (sh a 1) q_14) (ws' := W_St G a (q_14, v.2.1, v.2.2.1, v.2.2.2.1, v.2.2.2.2.1, v.2.2.2.2.2.1, v.2.2.2.2.2.2.1, v.2.2.2.2.2.2.2.1, v.2.2.2.2.2.2.2.2)) hx hb hml hown hts hK hN hA hP hD hS (t_Pg_takeIntoHand l G (sh a 1) q_5 v.1 q_14 hc_14) m_Pg_takeIntoHand k_328 ⟨Nat.le_of_ble_eq_true rfl, Nat.le_of_ble_eq_true rfl⟩ (pm_8 (O_St G a v) (W_Pg G (sh a 1) v.1) (W_Dy G (sh a 6) v.2.1) (W_Wk G (sh a 14) v.2.2.1)) (pm_8 (O_St G a (q_14, v.2.1, v.2.2.1, v.2.2.2.1, v.2.2.2.2.1, v.2.2.2.2.2.1, v.2.2.2.2.2.2.1, v.2.2.2.2.2.2.2.1, v.2.2.2.2.2.2.2.2)) (W_Pg G (sh a 1) q_14) (W_Dy G (sh a 6) v.2.1) (W_Wk G (sh a 14) v.2.2.1)).symm 4 0 rfl rfl rfl rfl rfl (Nat.le_of_ble_eq_true rfl) hl.1 d_St_doAgain_14 ⟨Nat.zero_le _, Nat.zero_le _⟩ (fun H locs hP hD hS => ?_)
  refine lv_aload_n hx hb d_St_doAgain_17 rfl (lv_at hl 1 rfl) ?_
  refine va_get (D := G.1) (ci := 6) (v := .ref (a 1)) (C := R_St) (T := T_St) (N := 9) hx hb hts in_St hown hK hP 0 rfl rfl 0 (by decide) (hts _ k_114) (fun _ h9 => h9) rfl d_St_doAgain_18 ?_
  refine lv_iload_n hx hb d_St_doAgain_21 rfl (lv_at hl 0 rfl) ?_
  obtain ⟨q_22, hc_22, hf⟩ := oc_e hf
  refine kcV (cc := c_St_doAgain) (own := "FloodDiary$State") (index := 116) (wc := W_Pg G (sh a 1) q_14) (wr := O_St G a (q_14, v.2.1, v.2.2.1, v.2.2.2.1, v.2.2.2.2.1, v.2.2.2.2.2.1, v.2.2.2.2.2.2.1, v.2.2.2.2.2.2.2.1, v.2.2.2.2.2.2.2.2) ++ (W_Dy G (sh a 6) v.2.1 ++ (W_Wk G (sh a 14) v.2.2.1 ++ (([] : va_W))))) (wc' := W_Pg G (sh a 1) q_14) (ws' := W_St G a (q_14, v.2.1, v.2.2.1, v.2.2.2.1, v.2.2.2.2.1, v.2.2.2.2.2.1, v.2.2.2.2.2.2.1, v.2.2.2.2.2.2.2.1, v.2.2.2.2.2.2.2.2)) hx hb hml hown hts hK hN hA hP hD hS (t_Pg_markInHand l G (sh a 1) q_5 q_14 q_22 hc_22) m_Pg_markInHand k_427 ⟨Nat.le_of_ble_eq_true rfl, Nat.le_of_ble_eq_true rfl⟩ (pm_8 (O_St G a (q_14, v.2.1, v.2.2.1, v.2.2.2.1, v.2.2.2.2.1, v.2.2.2.2.2.1, v.2.2.2.2.2.2.1, v.2.2.2.2.2.2.2.1, v.2.2.2.2.2.2.2.2)) (W_Pg G (sh a 1) q_14) (W_Dy G (sh a 6) v.2.1) (W_Wk G (sh a 14) v.2.2.1)) (pm_8 (O_St G a (q_14, v.2.1, v.2.2.1, v.2.2.2.1, v.2.2.2.2.1, v.2.2.2.2.2.1, v.2.2.2.2.2.2.1, v.2.2.2.2.2.2.2.1, v.2.2.2.2.2.2.2.2)) (W_Pg G (sh a 1) q_14) (W_Dy G (sh a 6) v.2.1) (W_Wk G (sh a 14) v.2.2.1)).symm 4 0 rfl rfl rfl rfl rfl (Nat.le_of_ble_eq_true rfl) hl.1 d_St_doAgain_22 ⟨Nat.zero_le _, Nat.zero_le _⟩ (fun H locs hP hD hS => ?_)
  refine lv_iload_n hx hb d_St_doAgain_25 rfl (lv_at hl 2 rfl) ?_
  refine lv_icmp_ge (tgt := 46) hx hb d_St_doAgain_26 (by decide) (fun c_26 => ?_) (fun c_26 => ?_)
  · replace hf := ob_et c_26 hf
    cases hf
    exact kV hx hb hr hlk hP hD hS d_St_doAgain_46
  · replace hf := ob_ef c_26 hf
    refine lv_aload_n hx hb d_St_doAgain_29 rfl (lv_at hl 1 rfl) ?_
    refine va_get (D := G.1) (ci := 6) (v := .ref (a 1)) (C := R_St) (T := T_St) (N := 9) hx hb hts in_St hown hK hP 0 rfl rfl 0 (by decide) (hts _ k_114) (fun _ h9 => h9) rfl d_St_doAgain_30 ?_
    refine lv_iload_n hx hb d_St_doAgain_33 rfl (lv_at hl 0 rfl) ?_
    refine lv_aload_n hx hb d_St_doAgain_34 rfl (lv_at hl 1 rfl) ?_
    refine va_get (D := G.1) (ci := 6) (v := .ref (a 6)) (C := R_St) (T := T_St) (N := 9) hx hb hts in_St hown hK hP 0 rfl rfl 1 (by decide) (hts _ k_116) (fun _ h9 => h9) rfl d_St_doAgain_35 ?_
    refine lv_iload_n hx hb d_St_doAgain_38 rfl (lv_at hl 2 rfl) ?_
    obtain ⟨q_39, hc_39, hf⟩ := oc_e hf
    refine kcV (cc := c_St_doAgain) (own := "FloodDiary$State") (index := 208) (wc := W_Dy G (sh a 6) v.2.1) (wr := O_St G a (q_14, v.2.1, v.2.2.1, v.2.2.2.1, v.2.2.2.2.1, v.2.2.2.2.2.1, v.2.2.2.2.2.2.1, v.2.2.2.2.2.2.2.1, v.2.2.2.2.2.2.2.2) ++ (W_Pg G (sh a 1) q_14 ++ (W_Wk G (sh a 14) v.2.2.1 ++ (([] : va_W))))) (wc' := W_Dy G (sh a 6) v.2.1) (ws' := W_St G a (q_14, v.2.1, v.2.2.1, v.2.2.2.1, v.2.2.2.2.1, v.2.2.2.2.2.1, v.2.2.2.2.2.2.1, v.2.2.2.2.2.2.2.1, v.2.2.2.2.2.2.2.2)) hx hb hml hown hts hK hN hA hP hD hS (t_Dy_thenOf l G (sh a 6) l1 v.2.1 q_39 hc_39) m_Dy_thenOf k_514 ⟨Nat.le_of_ble_eq_true rfl, Nat.le_of_ble_eq_true rfl⟩ (pm_7 (O_St G a (q_14, v.2.1, v.2.2.1, v.2.2.2.1, v.2.2.2.2.1, v.2.2.2.2.2.1, v.2.2.2.2.2.2.1, v.2.2.2.2.2.2.2.1, v.2.2.2.2.2.2.2.2)) (W_Pg G (sh a 1) q_14) (W_Dy G (sh a 6) v.2.1) (W_Wk G (sh a 14) v.2.2.1)) (pm_7 (O_St G a (q_14, v.2.1, v.2.2.1, v.2.2.2.1, v.2.2.2.2.1, v.2.2.2.2.2.1, v.2.2.2.2.2.2.1, v.2.2.2.2.2.2.2.1, v.2.2.2.2.2.2.2.2)) (W_Pg G (sh a 1) q_14) (W_Dy G (sh a 6) v.2.1) (W_Wk G (sh a 14) v.2.2.1)).symm 0 0 rfl rfl rfl rfl rfl (Nat.le_of_ble_eq_true rfl) hl.1 d_St_doAgain_39 ⟨Nat.zero_le _, Nat.zero_le _⟩ (fun H locs hP hD hS => ?_)
    refine lv_iload_n hx hb d_St_doAgain_42 rfl (lv_at hl 2 rfl) ?_
    obtain ⟨q_43, hc_43, hf⟩ := oc_e hf
    refine kcVv (cc := c_St_doAgain) (own := "FloodDiary$State") (index := 180) (wc := W_Pg G (sh a 1) q_14) (wr := O_St G a (q_14, v.2.1, v.2.2.1, v.2.2.2.1, v.2.2.2.2.1, v.2.2.2.2.2.1, v.2.2.2.2.2.2.1, v.2.2.2.2.2.2.2.1, v.2.2.2.2.2.2.2.2) ++ (W_Dy G (sh a 6) v.2.1 ++ (W_Wk G (sh a 14) v.2.2.1 ++ (([] : va_W))))) (wc' := W_Pg G (sh a 1) q_43) (ws' := W_St G a (q_43, v.2.1, v.2.2.1, v.2.2.2.1, v.2.2.2.2.1, v.2.2.2.2.2.1, v.2.2.2.2.2.2.1, v.2.2.2.2.2.2.2.1, v.2.2.2.2.2.2.2.2)) hx hb hml hown hts hK hN hA hP hD hS (t_Pg_change l G (sh a 1) q_5 q_39 l1 q_14 q_43 hc_43) m_Pg_change k_357 ⟨Nat.le_of_ble_eq_true rfl, Nat.le_of_ble_eq_true rfl⟩ (pm_8 (O_St G a (q_14, v.2.1, v.2.2.1, v.2.2.2.1, v.2.2.2.2.1, v.2.2.2.2.2.1, v.2.2.2.2.2.2.1, v.2.2.2.2.2.2.2.1, v.2.2.2.2.2.2.2.2)) (W_Pg G (sh a 1) q_14) (W_Dy G (sh a 6) v.2.1) (W_Wk G (sh a 14) v.2.2.1)) (pm_8 (O_St G a (q_43, v.2.1, v.2.2.1, v.2.2.2.1, v.2.2.2.2.1, v.2.2.2.2.2.1, v.2.2.2.2.2.2.1, v.2.2.2.2.2.2.2.1, v.2.2.2.2.2.2.2.2)) (W_Pg G (sh a 1) q_43) (W_Dy G (sh a 6) v.2.1) (W_Wk G (sh a 14) v.2.2.1)).symm 4 0 rfl rfl rfl rfl rfl (Nat.le_of_ble_eq_true rfl) hl.1 d_St_doAgain_43 ⟨Nat.zero_le _, Nat.zero_le _⟩ (fun H locs hP hD hS => ?_)
    cases hf
    exact kV hx hb hr hlk hP hD hS d_St_doAgain_46
set_option maxHeartbeats 4000000 in
set_option maxRecDepth 100000 in
theorem t_St_isEndSaved (l : Launch) (G : GG) (a : Nat → Nat) (l1 : Int32) (v : V_St) (q : Int32) (hf : f_St_isEndSaved l1 v = some q) : MI l G y_St_isEndSaved c_St_isEndSaved 2 (some .boolean) (rmk 2 42) (W_St G a v) [.ref (a 0), .int l1] (W_St G a v) (q) := by
  refine ofI "FloodDiary$State" (by decide +kernel) rfl (Nat.le_of_ble_eq_true rfl) (fun p e s m args below meth c A ls hx hb hr hml hown hts hlk hK hN hA hP hD hS hl => ?_)
  have hl : lv_has ls 2 [(0, .ref (a 0)), (1, .int l1)] := hl
  unfold f_St_isEndSaved at hf
  refine lv_aload_n hx hb d_St_isEndSaved_0 rfl (lv_at hl 0 rfl) ?_
  refine va_get (D := G.1) (ci := 6) (v := .ref (a 14)) (C := R_St) (T := T_St) (N := 9) hx hb hts in_St hown hK hP 0 rfl rfl 2 (by decide) (hts _ k_118) (fun _ h9 => h9) rfl d_St_isEndSaved_1 ?_
  refine lv_iload_n hx hb d_St_isEndSaved_4 rfl (lv_at hl 1 rfl) ?_
  obtain ⟨q_5, hc_5, hf⟩ := oc_e hf
  refine kcV (cc := c_St_isEndSaved) (own := "FloodDiary$State") (index := 85) (wc := W_Wk G (sh a 14) v.2.2.1) (wr := O_St G a v ++ (W_Pg G (sh a 1) v.1 ++ (W_Dy G (sh a 6) v.2.1 ++ (([] : va_W))))) (wc' := W_Wk G (sh a 14) v.2.2.1) (ws' := W_St G a v) hx hb hml hown hts hK hN hA hP hD hS (t_Wk_isOpen l G (sh a 14) l1 v.2.2.1 q_5 hc_5) m_Wk_isOpen k_327 ⟨Nat.le_of_ble_eq_true rfl, Nat.le_of_ble_eq_true rfl⟩ (pm_6 (O_St G a v) (W_Pg G (sh a 1) v.1) (W_Dy G (sh a 6) v.2.1) (W_Wk G (sh a 14) v.2.2.1)) (pm_6 (O_St G a v) (W_Pg G (sh a 1) v.1) (W_Dy G (sh a 6) v.2.1) (W_Wk G (sh a 14) v.2.2.1)).symm 7 0 rfl rfl rfl rfl rfl (Nat.le_of_ble_eq_true rfl) hl.1 d_St_isEndSaved_5 ⟨Nat.zero_le _, Nat.zero_le _⟩ (fun H locs hP hD hS => ?_)
  refine lv_if_ne (tgt := 33) hx hb d_St_isEndSaved_8 (by decide) (fun c_8 => ?_) (fun c_8 => ?_)
  · replace hf := ob_ef c_8 hf
    refine lv_iconst (v := (0 : Int32)) hx hb d_St_isEndSaved_33 (by decide) ?_
    cases hf
    exact kZ hx hb hr hlk hP hD hS (Or.inl rfl) d_St_isEndSaved_34
  · replace hf := ob_et c_8 hf
    refine lv_aload_n hx hb d_St_isEndSaved_11 rfl (lv_at hl 0 rfl) ?_
    refine va_get (D := G.1) (ci := 6) (v := .ref (a 14)) (C := R_St) (T := T_St) (N := 9) hx hb hts in_St hown hK hP 0 rfl rfl 2 (by decide) (hts _ k_118) (fun _ h9 => h9) rfl d_St_isEndSaved_12 ?_
    refine lv_iload_n hx hb d_St_isEndSaved_15 rfl (lv_at hl 1 rfl) ?_
    obtain ⟨q_16, hc_16, hf⟩ := oc_e hf
    refine kcV (cc := c_St_isEndSaved) (own := "FloodDiary$State") (index := 166) (wc := W_Wk G (sh a 14) v.2.2.1) (wr := O_St G a v ++ (W_Pg G (sh a 1) v.1 ++ (W_Dy G (sh a 6) v.2.1 ++ (([] : va_W))))) (wc' := W_Wk G (sh a 14) v.2.2.1) (ws' := W_St G a v) hx hb hml hown hts hK hN hA hP hD hS (t_Wk_lastOf l G (sh a 14) l1 v.2.2.1 q_16 hc_16) m_Wk_lastOf k_282 ⟨Nat.le_of_ble_eq_true rfl, Nat.le_of_ble_eq_true rfl⟩ (pm_6 (O_St G a v) (W_Pg G (sh a 1) v.1) (W_Dy G (sh a 6) v.2.1) (W_Wk G (sh a 14) v.2.2.1)) (pm_6 (O_St G a v) (W_Pg G (sh a 1) v.1) (W_Dy G (sh a 6) v.2.1) (W_Wk G (sh a 14) v.2.2.1)).symm 7 0 rfl rfl rfl rfl rfl (Nat.le_of_ble_eq_true rfl) hl.1 d_St_isEndSaved_16 ⟨Nat.zero_le _, Nat.zero_le _⟩ (fun H locs hP hD hS => ?_)
    refine lv_aload_n hx hb d_St_isEndSaved_19 rfl (lv_at hl 0 rfl) ?_
    refine va_get (D := G.1) (ci := 6) (v := .ref (a 6)) (C := R_St) (T := T_St) (N := 9) hx hb hts in_St hown hK hP 0 rfl rfl 1 (by decide) (hts _ k_116) (fun _ h9 => h9) rfl d_St_isEndSaved_20 ?_
    refine va_getN (D := G.1) (ci := 0) (v := .int v.2.1.2.2.2.2.2.2.2.2) (C := R_Dy) (T := T_Dy) (N := 9) (host := "FloodDiary") hx hb hts in_Dy hown hK hP 6 rfl rfl 8 (by decide) (va_Nw.use rfl (hN.1 _ nsF_3)) (fun _ h9 => h9) rfl d_St_isEndSaved_23 ?_
    refine lv_icmp_gt (tgt := 33) hx hb d_St_isEndSaved_26 (by decide) (fun c_26 => ?_) (fun c_26 => ?_)
    · replace hf := ob_et c_26 hf
      refine lv_iconst (v := (0 : Int32)) hx hb d_St_isEndSaved_33 (by decide) ?_
      cases hf
      exact kZ hx hb hr hlk hP hD hS (Or.inl rfl) d_St_isEndSaved_34
    · replace hf := ob_ef c_26 hf
      refine lv_iconst (v := (1 : Int32)) hx hb d_St_isEndSaved_29 (by decide) ?_
      refine lv_goto (tgt := 34) hx hb d_St_isEndSaved_30 (by decide) ?_
      cases hf
      exact kZ hx hb hr hlk hP hD hS (Or.inr rfl) d_St_isEndSaved_34
set_option maxHeartbeats 4000000 in
set_option maxRecDepth 100000 in
theorem t_St_isNeeded (l : Launch) (G : GG) (a : Nat → Nat) (l1 : Int32) (v : V_St) (q : Int32) (hf : f_St_isNeeded l1 v = some q) : MI l G y_St_isNeeded c_St_isNeeded 3 (some .boolean) (rmk 3 63) (W_St G a v) [.ref (a 0), .int l1] (W_St G a v) (q) := by
  refine ofI "FloodDiary$State" (by decide +kernel) rfl (Nat.le_of_ble_eq_true rfl) (fun p e s m args below meth c A ls hx hb hr hml hown hts hlk hK hN hA hP hD hS hl => ?_)
  have hl : lv_has ls 3 [(0, .ref (a 0)), (1, .int l1)] := hl
  unfold f_St_isNeeded at hf
  refine lv_aload_n hx hb d_St_isNeeded_0 rfl (lv_at hl 0 rfl) ?_
  refine va_get (D := G.1) (ci := 6) (v := .ref (a 6)) (C := R_St) (T := T_St) (N := 9) hx hb hts in_St hown hK hP 0 rfl rfl 1 (by decide) (hts _ k_116) (fun _ h9 => h9) rfl d_St_isNeeded_1 ?_
  refine lv_iload_n hx hb d_St_isNeeded_4 rfl (lv_at hl 1 rfl) ?_
  obtain ⟨q_5, hc_5, hf⟩ := oc_e hf
  refine kcV (cc := c_St_isNeeded) (own := "FloodDiary$State") (index := 187) (wc := W_Dy G (sh a 6) v.2.1) (wr := O_St G a v ++ (W_Pg G (sh a 1) v.1 ++ (W_Wk G (sh a 14) v.2.2.1 ++ (([] : va_W))))) (wc' := W_Dy G (sh a 6) v.2.1) (ws' := W_St G a v) hx hb hml hown hts hK hN hA hP hD hS (t_Dy_kindOf l G (sh a 6) l1 v.2.1 q_5 hc_5) m_Dy_kindOf k_389 ⟨Nat.le_of_ble_eq_true rfl, Nat.le_of_ble_eq_true rfl⟩ (pm_7 (O_St G a v) (W_Pg G (sh a 1) v.1) (W_Dy G (sh a 6) v.2.1) (W_Wk G (sh a 14) v.2.2.1)) (pm_7 (O_St G a v) (W_Pg G (sh a 1) v.1) (W_Dy G (sh a 6) v.2.1) (W_Wk G (sh a 14) v.2.2.1)).symm 0 0 rfl rfl rfl rfl rfl (Nat.le_of_ble_eq_true rfl) hl.1 d_St_isNeeded_5 ⟨Nat.zero_le _, Nat.zero_le _⟩ (fun H locs hP hD hS => ?_)
  refine lv_istore_n (lv' := [(2, .int q_5), (0, .ref (a 0)), (1, .int l1)]) hx hb d_St_isNeeded_8 rfl hl (by decide) rfl (fun ls hl => ?_)
  refine lv_iload_n hx hb d_St_isNeeded_9 rfl (lv_at hl 0 rfl) ?_
  obtain ⟨q_10, hc_10, hf⟩ := oc_e hf
  refine kcSN (cc := c_St_isNeeded) (own := "FloodDiary$State") (index := 205) (wc := ([] : va_W)) (wr := W_St G a v) (wc' := ([] : va_W)) (ws' := W_St G a v) hx hb hml hown hts hK hN hA hP hD hS (t_Fd_isChange l G q_5 q_10 hc_10) m_Fd_isChange nsM_11 ⟨Nat.le_of_ble_eq_true rfl, Nat.le_of_ble_eq_true rfl⟩ (List.Perm.refl _) (List.Perm.refl _) rfl rfl (Nat.le_of_ble_eq_true rfl) hl.1 d_St_isNeeded_10 ⟨Nat.zero_le _, Nat.zero_le _⟩ (fun H locs hP hD hS => ?_)
  refine lv_if_eq (tgt := 41) hx hb d_St_isNeeded_13 (by decide) (fun c_13 => ?_) (fun c_13 => ?_)
  · replace hf := ob_et c_13 hf
    refine lv_iload_n hx hb d_St_isNeeded_41 rfl (lv_at hl 0 rfl) ?_
    refine lv_if_ne (tgt := 64) hx hb d_St_isNeeded_42 (by decide) (fun c_42 => ?_) (fun c_42 => ?_)
    · replace hf := ob_ef c_42 hf
      refine lv_iconst (v := (0 : Int32)) hx hb d_St_isNeeded_64 (by decide) ?_
      cases hf
      exact kZ hx hb hr hlk hP hD hS (Or.inl rfl) d_St_isNeeded_65
    · replace hf := ob_et c_42 hf
      refine lv_aload_n hx hb d_St_isNeeded_45 rfl (lv_at hl 1 rfl) ?_
      refine lv_aload_n hx hb d_St_isNeeded_46 rfl (lv_at hl 1 rfl) ?_
      refine va_get (D := G.1) (ci := 6) (v := .ref (a 6)) (C := R_St) (T := T_St) (N := 9) hx hb hts in_St hown hK hP 0 rfl rfl 1 (by decide) (hts _ k_116) (fun _ h9 => h9) rfl d_St_isNeeded_47 ?_
      refine lv_iload_n hx hb d_St_isNeeded_50 rfl (lv_at hl 2 rfl) ?_
      obtain ⟨q_51, hc_51, hf⟩ := oc_e hf
      refine kcV (cc := c_St_isNeeded) (own := "FloodDiary$State") (index := 211) (wc := W_Dy G (sh a 6) v.2.1) (wr := O_St G a v ++ (W_Pg G (sh a 1) v.1 ++ (W_Wk G (sh a 14) v.2.2.1 ++ (([] : va_W))))) (wc' := W_Dy G (sh a 6) v.2.1) (ws' := W_St G a v) hx hb hml hown hts hK hN hA hP hD hS (t_Dy_workOf l G (sh a 6) l1 v.2.1 q_51 hc_51) m_Dy_workOf k_618 ⟨Nat.le_of_ble_eq_true rfl, Nat.le_of_ble_eq_true rfl⟩ (pm_7 (O_St G a v) (W_Pg G (sh a 1) v.1) (W_Dy G (sh a 6) v.2.1) (W_Wk G (sh a 14) v.2.2.1)) (pm_7 (O_St G a v) (W_Pg G (sh a 1) v.1) (W_Dy G (sh a 6) v.2.1) (W_Wk G (sh a 14) v.2.2.1)).symm 0 0 rfl rfl rfl rfl rfl (Nat.le_of_ble_eq_true rfl) hl.1 d_St_isNeeded_51 ⟨Nat.zero_le _, Nat.zero_le _⟩ (fun H locs hP hD hS => ?_)
      obtain ⟨q_54, hc_54, hf⟩ := oc_e hf
      refine kcV (cc := c_St_isNeeded) (own := "FloodDiary$State") (index := 214) (wc := W_St G a v) (wr := ([] : va_W)) (wc' := W_St G a v) (ws' := W_St G a v) hx hb hml hown hts hK hN hA hP hD hS (t_St_isEndSaved l G a q_51 v q_54 hc_54) m_St_isEndSaved k_619 ⟨Nat.le_of_ble_eq_true rfl, Nat.le_of_ble_eq_true rfl⟩ (pm_0 (W_St G a v)) (pm_0 (W_St G a v)).symm 6 0 rfl rfl rfl rfl rfl (Nat.le_of_ble_eq_true rfl) hl.1 d_St_isNeeded_54 ⟨Nat.zero_le _, Nat.zero_le _⟩ (fun H locs hP hD hS => ?_)
      refine lv_if_ne (tgt := 64) hx hb d_St_isNeeded_57 (by decide) (fun c_57 => ?_) (fun c_57 => ?_)
      · replace hf := ob_ef c_57 hf
        refine lv_iconst (v := (0 : Int32)) hx hb d_St_isNeeded_64 (by decide) ?_
        cases hf
        exact kZ hx hb hr hlk hP hD hS (Or.inl rfl) d_St_isNeeded_65
      · replace hf := ob_et c_57 hf
        refine lv_iconst (v := (1 : Int32)) hx hb d_St_isNeeded_60 (by decide) ?_
        refine lv_goto (tgt := 65) hx hb d_St_isNeeded_61 (by decide) ?_
        cases hf
        exact kZ hx hb hr hlk hP hD hS (Or.inr rfl) d_St_isNeeded_65
  · replace hf := ob_ef c_13 hf
    refine lv_iload_n hx hb d_St_isNeeded_16 rfl (lv_at hl 2 rfl) ?_
    refine lv_aload_n hx hb d_St_isNeeded_17 rfl (lv_at hl 1 rfl) ?_
    refine va_get (D := G.1) (ci := 6) (v := .ref (a 1)) (C := R_St) (T := T_St) (N := 9) hx hb hts in_St hown hK hP 0 rfl rfl 0 (by decide) (hts _ k_114) (fun _ h9 => h9) rfl d_St_isNeeded_18 ?_
    refine lv_aload_n hx hb d_St_isNeeded_21 rfl (lv_at hl 1 rfl) ?_
    refine va_get (D := G.1) (ci := 6) (v := .ref (a 6)) (C := R_St) (T := T_St) (N := 9) hx hb hts in_St hown hK hP 0 rfl rfl 1 (by decide) (hts _ k_116) (fun _ h9 => h9) rfl d_St_isNeeded_22 ?_
    refine lv_iload_n hx hb d_St_isNeeded_25 rfl (lv_at hl 2 rfl) ?_
    obtain ⟨q_26, hc_26, hf⟩ := oc_e hf
    refine kcV (cc := c_St_isNeeded) (own := "FloodDiary$State") (index := 190) (wc := W_Dy G (sh a 6) v.2.1) (wr := O_St G a v ++ (W_Pg G (sh a 1) v.1 ++ (W_Wk G (sh a 14) v.2.2.1 ++ (([] : va_W))))) (wc' := W_Dy G (sh a 6) v.2.1) (ws' := W_St G a v) hx hb hml hown hts hK hN hA hP hD hS (t_Dy_pageOf l G (sh a 6) l1 v.2.1 q_26 hc_26) m_Dy_pageOf k_401 ⟨Nat.le_of_ble_eq_true rfl, Nat.le_of_ble_eq_true rfl⟩ (pm_7 (O_St G a v) (W_Pg G (sh a 1) v.1) (W_Dy G (sh a 6) v.2.1) (W_Wk G (sh a 14) v.2.2.1)) (pm_7 (O_St G a v) (W_Pg G (sh a 1) v.1) (W_Dy G (sh a 6) v.2.1) (W_Wk G (sh a 14) v.2.2.1)).symm 0 0 rfl rfl rfl rfl rfl (Nat.le_of_ble_eq_true rfl) hl.1 d_St_isNeeded_26 ⟨Nat.zero_le _, Nat.zero_le _⟩ (fun H locs hP hD hS => ?_)
    obtain ⟨q_29, hc_29, hf⟩ := oc_e hf
    refine kcV (cc := c_St_isNeeded) (own := "FloodDiary$State") (index := 150) (wc := W_Pg G (sh a 1) v.1) (wr := O_St G a v ++ (W_Dy G (sh a 6) v.2.1 ++ (W_Wk G (sh a 14) v.2.2.1 ++ (([] : va_W))))) (wc' := W_Pg G (sh a 1) v.1) (ws' := W_St G a v) hx hb hml hown hts hK hN hA hP hD hS (t_Pg_markOnShelf l G (sh a 1) q_26 v.1 q_29 hc_29) m_Pg_markOnShelf k_530 ⟨Nat.le_of_ble_eq_true rfl, Nat.le_of_ble_eq_true rfl⟩ (pm_8 (O_St G a v) (W_Pg G (sh a 1) v.1) (W_Dy G (sh a 6) v.2.1) (W_Wk G (sh a 14) v.2.2.1)) (pm_8 (O_St G a v) (W_Pg G (sh a 1) v.1) (W_Dy G (sh a 6) v.2.1) (W_Wk G (sh a 14) v.2.2.1)).symm 4 0 rfl rfl rfl rfl rfl (Nat.le_of_ble_eq_true rfl) hl.1 d_St_isNeeded_29 ⟨Nat.zero_le _, Nat.zero_le _⟩ (fun H locs hP hD hS => ?_)
    refine lv_icmp_le (tgt := 39) hx hb d_St_isNeeded_32 (by decide) (fun c_32 => ?_) (fun c_32 => ?_)
    · replace hf := ob_et c_32 hf
      refine lv_iconst (v := (0 : Int32)) hx hb d_St_isNeeded_39 (by decide) ?_
      cases hf
      exact kZ hx hb hr hlk hP hD hS (Or.inl rfl) d_St_isNeeded_40
    · replace hf := ob_ef c_32 hf
      refine lv_iconst (v := (1 : Int32)) hx hb d_St_isNeeded_35 (by decide) ?_
      refine lv_goto (tgt := 40) hx hb d_St_isNeeded_36 (by decide) ?_
      cases hf
      exact kZ hx hb hr hlk hP hD hS (Or.inr rfl) d_St_isNeeded_40
set_option maxHeartbeats 4000000 in
set_option maxRecDepth 100000 in
theorem t_St_beginWork (l : Launch) (G : GG) (a : Nat → Nat) (v : V_St) (q : Int32 × V_St) (hf : f_St_beginWork v = some q) : MI l G y_St_beginWork c_St_beginWork 2 (some .int) (rmk 3 70) (W_St G a v) [.ref (a 0)] (W_St G a q.2) (q.1) := by
  refine ofI "FloodDiary$State" (by decide +kernel) rfl (Nat.le_of_ble_eq_true rfl) (fun p e s m args below meth c A ls hx hb hr hml hown hts hlk hK hN hA hP hD hS hl => ?_)
  have hl : lv_has ls 2 [(0, .ref (a 0))] := hl
  unfold f_St_beginWork at hf
  refine lv_aload_n hx hb d_St_beginWork_0 rfl (lv_at hl 0 rfl) ?_
  refine va_get (D := G.1) (ci := 6) (v := .ref (a 14)) (C := R_St) (T := T_St) (N := 9) hx hb hts in_St hown hK hP 0 rfl rfl 2 (by decide) (hts _ k_118) (fun _ h9 => h9) rfl d_St_beginWork_1 ?_
  obtain ⟨q_4, hc_4, hf⟩ := oc_e hf
  refine kcV (cc := c_St_beginWork) (own := "FloodDiary$State") (index := 62) (wc := W_Wk G (sh a 14) v.2.2.1) (wr := O_St G a v ++ (W_Pg G (sh a 1) v.1 ++ (W_Dy G (sh a 6) v.2.1 ++ (([] : va_W))))) (wc' := W_Wk G (sh a 14) v.2.2.1) (ws' := W_St G a v) hx hb hml hown hts hK hN hA hP hD hS (t_Wk_isFull l G (sh a 14) v.2.2.1 q_4 hc_4) m_Wk_isFull k_270 ⟨Nat.le_of_ble_eq_true rfl, Nat.le_of_ble_eq_true rfl⟩ (pm_6 (O_St G a v) (W_Pg G (sh a 1) v.1) (W_Dy G (sh a 6) v.2.1) (W_Wk G (sh a 14) v.2.2.1)) (pm_6 (O_St G a v) (W_Pg G (sh a 1) v.1) (W_Dy G (sh a 6) v.2.1) (W_Wk G (sh a 14) v.2.2.1)).symm 7 0 rfl rfl rfl rfl rfl (Nat.le_of_ble_eq_true rfl) hl.1 d_St_beginWork_4 ⟨Nat.zero_le _, Nat.zero_le _⟩ (fun H locs hP hD hS => ?_)
  refine lv_if_ne (tgt := 20) hx hb d_St_beginWork_7 (by decide) (fun c_7 => ?_) (fun c_7 => ?_)
  · replace hf := ob_ef c_7 hf
    refine lv_bipush (v := (-4 : Int32)) hx hb d_St_beginWork_20 (by decide) ?_
    cases hf
    exact kI hx hb hr hlk hP hD hS d_St_beginWork_22
  · replace hf := ob_et c_7 hf
    refine lv_aload_n hx hb d_St_beginWork_10 rfl (lv_at hl 0 rfl) ?_
    refine va_get (D := G.1) (ci := 6) (v := .ref (a 6)) (C := R_St) (T := T_St) (N := 9) hx hb hts in_St hown hK hP 0 rfl rfl 1 (by decide) (hts _ k_116) (fun _ h9 => h9) rfl d_St_beginWork_11 ?_
    obtain ⟨q_14, hc_14, hf⟩ := oc_e hf
    refine kcV (cc := c_St_beginWork) (own := "FloodDiary$State") (index := 66) (wc := W_Dy G (sh a 6) v.2.1) (wr := O_St G a v ++ (W_Pg G (sh a 1) v.1 ++ (W_Wk G (sh a 14) v.2.2.1 ++ (([] : va_W))))) (wc' := W_Dy G (sh a 6) v.2.1) (ws' := W_St G a v) hx hb hml hown hts hK hN hA hP hD hS (t_Dy_isFull l G (sh a 6) v.2.1 q_14 hc_14) m_Dy_isFull k_274 ⟨Nat.le_of_ble_eq_true rfl, Nat.le_of_ble_eq_true rfl⟩ (pm_7 (O_St G a v) (W_Pg G (sh a 1) v.1) (W_Dy G (sh a 6) v.2.1) (W_Wk G (sh a 14) v.2.2.1)) (pm_7 (O_St G a v) (W_Pg G (sh a 1) v.1) (W_Dy G (sh a 6) v.2.1) (W_Wk G (sh a 14) v.2.2.1)).symm 0 0 rfl rfl rfl rfl rfl (Nat.le_of_ble_eq_true rfl) hl.1 d_St_beginWork_14 ⟨Nat.zero_le _, Nat.zero_le _⟩ (fun H locs hP hD hS => ?_)
    refine lv_if_eq (tgt := 23) hx hb d_St_beginWork_17 (by decide) (fun c_17 => ?_) (fun c_17 => ?_)
    · replace hf := ob_et c_17 hf
      refine lv_aload_n hx hb d_St_beginWork_23 rfl (lv_at hl 0 rfl) ?_
      refine va_get (D := G.1) (ci := 6) (v := .int v.2.2.2.1) (C := R_St) (T := T_St) (N := 9) hx hb hts in_St hown hK hP 0 rfl rfl 3 (by decide) (hts _ k_120) (fun _ h9 => h9) rfl d_St_beginWork_24 ?_
      refine lv_if_eq (tgt := 33) hx hb d_St_beginWork_27 (by decide) (fun c_27 => ?_) (fun c_27 => ?_)
      · replace hf := ob_et c_27 hf
        refine lv_aload_n hx hb d_St_beginWork_33 rfl (lv_at hl 0 rfl) ?_
        refine va_get (D := G.1) (ci := 6) (v := .ref (a 14)) (C := R_St) (T := T_St) (N := 9) hx hb hts in_St hown hK hP 0 rfl rfl 2 (by decide) (hts _ k_118) (fun _ h9 => h9) rfl d_St_beginWork_34 ?_
        refine va_getN (D := G.1) (ci := 7) (v := .int v.2.2.1.2.2.2.2.2) (C := R_Wk) (T := T_Wk) (N := 6) (host := "FloodDiary") hx hb hts in_Wk hown hK hP 14 rfl rfl 5 (by decide) (va_Nw.use rfl (hN.1 _ nsF_4)) (fun _ h9 => h9) rfl d_St_beginWork_37 ?_
        refine lv_istore_n (lv' := [(1, .int v.2.2.1.2.2.2.2.2), (0, .ref (a 0))]) hx hb d_St_beginWork_40 rfl hl (by decide) rfl (fun ls hl => ?_)
        refine lv_aload_n hx hb d_St_beginWork_41 rfl (lv_at hl 1 rfl) ?_
        refine lv_iconst (v := (0 : Int32)) hx hb d_St_beginWork_42 (by decide) ?_
        refine lv_iload_n hx hb d_St_beginWork_43 rfl (lv_at hl 0 rfl) ?_
        obtain ⟨q_44, hc_44, hf⟩ := oc_e hf
        refine kcV (cc := c_St_beginWork) (own := "FloodDiary$State") (index := 70) (wc := W_St G a v) (wr := ([] : va_W)) (wc' := W_St G a q_44.2) (ws' := W_St G a q_44.2) hx hb hml hown hts hK hN hA hP hD hS (t_St_enter l G a (0 : Int32) v.2.2.1.2.2.2.2.2 v q_44 hc_44) m_St_enter k_278 ⟨Nat.le_of_ble_eq_true rfl, Nat.le_of_ble_eq_true rfl⟩ (pm_0 (W_St G a v)) (pm_0 (W_St G a q_44.2)).symm 6 0 rfl rfl rfl rfl rfl (Nat.le_of_ble_eq_true rfl) hl.1 d_St_beginWork_44 ⟨Nat.zero_le _, Nat.zero_le _⟩ (fun H locs hP hD hS => ?_)
        refine lv_pop hx hb d_St_beginWork_47 rfl ?_
        refine lv_iload_n hx hb d_St_beginWork_48 rfl (lv_at hl 0 rfl) ?_
        cases hf
        exact kI hx hb hr hlk hP hD hS d_St_beginWork_49
      · replace hf := ob_ef c_27 hf
        refine lv_bipush (v := (-5 : Int32)) hx hb d_St_beginWork_30 (by decide) ?_
        cases hf
        exact kI hx hb hr hlk hP hD hS d_St_beginWork_32
    · replace hf := ob_ef c_17 hf
      refine lv_bipush (v := (-4 : Int32)) hx hb d_St_beginWork_20 (by decide) ?_
      cases hf
      exact kI hx hb hr hlk hP hD hS d_St_beginWork_22
set_option maxHeartbeats 4000000 in
set_option maxRecDepth 100000 in
theorem t_St_writePage (l : Launch) (G : GG) (a : Nat → Nat) (l1 : Int32) (l2 : Int32) (l3 : Int32) (v : V_St) (q : Int32 × V_St) (hf : f_St_writePage l1 l2 l3 v = some q) : MI l G y_St_writePage c_St_writePage 6 (some .int) (rmk 4 86) (W_St G a v) [.ref (a 0), .int l1, .int l2, .int l3] (W_St G a q.2) (q.1) := by
  refine ofI "FloodDiary$State" (by decide +kernel) rfl (Nat.le_of_ble_eq_true rfl) (fun p e s m args below meth c A ls hx hb hr hml hown hts hlk hK hN hA hP hD hS hl => ?_)
  have hl : lv_has ls 6 [(0, .ref (a 0)), (1, .int l1), (2, .int l2), (3, .int l3)] := hl
  have J_91 : ∀ (l1 : Int32) (l2 : Int32) (l3 : Int32) (v : V_St) (H : Heap) (locs : List Loc) (ls : Array Slot), va_P G.1 vwCl (W_St G a v) H → va_D A (W_St G a v) → va_S A s.heap H locs → lv_has ls 6 [(0, .ref (a 0)), (1, .int l1), (2, .int l2), (3, .int l3)] → f_St_writePage_91 l1 l2 l3 v = some q → W p l e (rmk 4 86) s m args below meth c H locs 0 0 (MQ below (qI G A (W_St G a q.2) (q.1)) args s 0 0 A) (F0 m 91 ls []) := by
    intro l1 l2 l3 v H locs ls hP hD hS hl hf
    unfold f_St_writePage_91 at hf
    refine lv_aload_n hx hb d_St_writePage_91 rfl (lv_at hl 0 rfl) ?_
    refine va_get (D := G.1) (ci := 6) (v := .ref (a 1)) (C := R_St) (T := T_St) (N := 9) hx hb hts in_St hown hK hP 0 rfl rfl 0 (by decide) (hts _ k_114) (fun _ h9 => h9) rfl d_St_writePage_92 ?_
    refine lv_iload_n hx hb d_St_writePage_95 rfl (lv_at hl 2 rfl) ?_
    obtain ⟨q_96, hc_96, hf⟩ := oc_e hf
    refine kcVv (cc := c_St_writePage) (own := "FloodDiary$State") (index := 88) (wc := W_Pg G (sh a 1) v.1) (wr := O_St G a v ++ (W_Dy G (sh a 6) v.2.1 ++ (W_Wk G (sh a 14) v.2.2.1 ++ (([] : va_W))))) (wc' := W_Pg G (sh a 1) q_96) (ws' := W_St G a (q_96, v.2.1, v.2.2.1, v.2.2.2.1, v.2.2.2.2.1, v.2.2.2.2.2.1, v.2.2.2.2.2.2.1, v.2.2.2.2.2.2.2.1, v.2.2.2.2.2.2.2.2)) hx hb hml hown hts hK hN hA hP hD hS (t_Pg_takeIntoHand l G (sh a 1) l2 v.1 q_96 hc_96) m_Pg_takeIntoHand k_328 ⟨Nat.le_of_ble_eq_true rfl, Nat.le_of_ble_eq_true rfl⟩ (pm_8 (O_St G a v) (W_Pg G (sh a 1) v.1) (W_Dy G (sh a 6) v.2.1) (W_Wk G (sh a 14) v.2.2.1)) (pm_8 (O_St G a (q_96, v.2.1, v.2.2.1, v.2.2.2.1, v.2.2.2.2.1, v.2.2.2.2.2.1, v.2.2.2.2.2.2.1, v.2.2.2.2.2.2.2.1, v.2.2.2.2.2.2.2.2)) (W_Pg G (sh a 1) q_96) (W_Dy G (sh a 6) v.2.1) (W_Wk G (sh a 14) v.2.2.1)).symm 4 0 rfl rfl rfl rfl rfl (Nat.le_of_ble_eq_true rfl) hl.1 d_St_writePage_96 ⟨Nat.zero_le _, Nat.zero_le _⟩ (fun H locs hP hD hS => ?_)
    refine lv_aload_n hx hb d_St_writePage_99 rfl (lv_at hl 0 rfl) ?_
    refine va_get (D := G.1) (ci := 6) (v := .ref (a 1)) (C := R_St) (T := T_St) (N := 9) hx hb hts in_St hown hK hP 0 rfl rfl 0 (by decide) (hts _ k_114) (fun _ h9 => h9) rfl d_St_writePage_100 ?_
    refine lv_iload_n hx hb d_St_writePage_103 rfl (lv_at hl 2 rfl) ?_
    obtain ⟨q_104, hc_104, hf⟩ := oc_e hf
    refine kcV (cc := c_St_writePage) (own := "FloodDiary$State") (index := 92) (wc := W_Pg G (sh a 1) q_96) (wr := O_St G a (q_96, v.2.1, v.2.2.1, v.2.2.2.1, v.2.2.2.2.1, v.2.2.2.2.2.1, v.2.2.2.2.2.2.1, v.2.2.2.2.2.2.2.1, v.2.2.2.2.2.2.2.2) ++ (W_Dy G (sh a 6) v.2.1 ++ (W_Wk G (sh a 14) v.2.2.1 ++ (([] : va_W))))) (wc' := W_Pg G (sh a 1) q_96) (ws' := W_St G a (q_96, v.2.1, v.2.2.1, v.2.2.2.1, v.2.2.2.2.1, v.2.2.2.2.2.1, v.2.2.2.2.2.2.1, v.2.2.2.2.2.2.2.1, v.2.2.2.2.2.2.2.2)) hx hb hml hown hts hK hN hA hP hD hS (t_Pg_valueInHand l G (sh a 1) l2 q_96 q_104 hc_104) m_Pg_valueInHand k_341 ⟨Nat.le_of_ble_eq_true rfl, Nat.le_of_ble_eq_true rfl⟩ (pm_8 (O_St G a (q_96, v.2.1, v.2.2.1, v.2.2.2.1, v.2.2.2.2.1, v.2.2.2.2.2.1, v.2.2.2.2.2.2.1, v.2.2.2.2.2.2.2.1, v.2.2.2.2.2.2.2.2)) (W_Pg G (sh a 1) q_96) (W_Dy G (sh a 6) v.2.1) (W_Wk G (sh a 14) v.2.2.1)) (pm_8 (O_St G a (q_96, v.2.1, v.2.2.1, v.2.2.2.1, v.2.2.2.2.1, v.2.2.2.2.2.1, v.2.2.2.2.2.2.1, v.2.2.2.2.2.2.2.1, v.2.2.2.2.2.2.2.2)) (W_Pg G (sh a 1) q_96) (W_Dy G (sh a 6) v.2.1) (W_Wk G (sh a 14) v.2.2.1)).symm 4 0 rfl rfl rfl rfl rfl (Nat.le_of_ble_eq_true rfl) hl.1 d_St_writePage_104 ⟨Nat.zero_le _, Nat.zero_le _⟩ (fun H locs hP hD hS => ?_)
    refine lv_istore (lv' := [(5, .int q_104), (0, .ref (a 0)), (1, .int l1), (2, .int l2), (3, .int l3)]) hx hb d_St_writePage_107 hl (by decide) rfl (fun ls hl => ?_)
    refine lv_aload_n hx hb d_St_writePage_109 rfl (lv_at hl 1 rfl) ?_
    refine lv_iconst (v := (1 : Int32)) hx hb d_St_writePage_110 (by decide) ?_
    refine lv_iload_n hx hb d_St_writePage_111 rfl (lv_at hl 2 rfl) ?_
    refine lv_iload_n hx hb d_St_writePage_112 rfl (lv_at hl 3 rfl) ?_
    refine lv_iload hx hb d_St_writePage_113 (lv_at hl 0 rfl) ?_
    refine lv_iload_n hx hb d_St_writePage_115 rfl (lv_at hl 4 rfl) ?_
    refine lv_bipush (v := (-6 : Int32)) hx hb d_St_writePage_116 (by decide) ?_
    obtain ⟨q_118, hc_118, hf⟩ := oc_e hf
    refine kcVv (cc := c_St_writePage) (own := "FloodDiary$State") (index := 95) (wc := W_St G a (q_96, v.2.1, v.2.2.1, v.2.2.2.1, v.2.2.2.2.1, v.2.2.2.2.2.1, v.2.2.2.2.2.2.1, v.2.2.2.2.2.2.2.1, v.2.2.2.2.2.2.2.2)) (wr := ([] : va_W)) (wc' := W_St G a q_118) (ws' := W_St G a q_118) hx hb hml hown hts hK hN hA hP hD hS (t_St_enterOnPage l G a (1 : Int32) l1 l2 q_104 l3 (-6 : Int32) (q_96, v.2.1, v.2.2.1, v.2.2.2.1, v.2.2.2.2.1, v.2.2.2.2.2.1, v.2.2.2.2.2.2.1, v.2.2.2.2.2.2.2.1, v.2.2.2.2.2.2.2.2) q_118 hc_118) m_St_enterOnPage k_345 ⟨Nat.le_of_ble_eq_true rfl, Nat.le_of_ble_eq_true rfl⟩ (pm_0 (W_St G a (q_96, v.2.1, v.2.2.1, v.2.2.2.1, v.2.2.2.2.1, v.2.2.2.2.2.1, v.2.2.2.2.2.2.1, v.2.2.2.2.2.2.2.1, v.2.2.2.2.2.2.2.2))) (pm_0 (W_St G a q_118)).symm 6 0 rfl rfl rfl rfl rfl (Nat.le_of_ble_eq_true rfl) hl.1 d_St_writePage_118 ⟨Nat.zero_le _, Nat.zero_le _⟩ (fun H locs hP hD hS => ?_)
    refine lv_iload hx hb d_St_writePage_121 (lv_at hl 0 rfl) ?_
    cases hf
    exact kI hx hb hr hlk hP hD hS d_St_writePage_123
  unfold f_St_writePage at hf
  refine lv_aload_n hx hb d_St_writePage_0 rfl (lv_at hl 0 rfl) ?_
  refine va_get (D := G.1) (ci := 6) (v := .ref (a 14)) (C := R_St) (T := T_St) (N := 9) hx hb hts in_St hown hK hP 0 rfl rfl 2 (by decide) (hts _ k_118) (fun _ h9 => h9) rfl d_St_writePage_1 ?_
  refine lv_iload_n hx hb d_St_writePage_4 rfl (lv_at hl 1 rfl) ?_
  obtain ⟨q_5, hc_5, hf⟩ := oc_e hf
  refine kcV (cc := c_St_writePage) (own := "FloodDiary$State") (index := 74) (wc := W_Wk G (sh a 14) v.2.2.1) (wr := O_St G a v ++ (W_Pg G (sh a 1) v.1 ++ (W_Dy G (sh a 6) v.2.1 ++ (([] : va_W))))) (wc' := W_Wk G (sh a 14) v.2.2.1) (ws' := W_St G a v) hx hb hml hown hts hK hN hA hP hD hS (t_Wk_has l G (sh a 14) l1 v.2.2.1 q_5 hc_5) m_Wk_has k_310 ⟨Nat.le_of_ble_eq_true rfl, Nat.le_of_ble_eq_true rfl⟩ (pm_6 (O_St G a v) (W_Pg G (sh a 1) v.1) (W_Dy G (sh a 6) v.2.1) (W_Wk G (sh a 14) v.2.2.1)) (pm_6 (O_St G a v) (W_Pg G (sh a 1) v.1) (W_Dy G (sh a 6) v.2.1) (W_Wk G (sh a 14) v.2.2.1)).symm 7 0 rfl rfl rfl rfl rfl (Nat.le_of_ble_eq_true rfl) hl.1 d_St_writePage_5 ⟨Nat.zero_le _, Nat.zero_le _⟩ (fun H locs hP hD hS => ?_)
  refine lv_if_eq (tgt := 18) hx hb d_St_writePage_8 (by decide) (fun c_8 => ?_) (fun c_8 => ?_)
  · replace hf := ob_et c_8 hf
    refine lv_iconst (v := (-1 : Int32)) hx hb d_St_writePage_18 (by decide) ?_
    cases hf
    exact kI hx hb hr hlk hP hD hS d_St_writePage_19
  · replace hf := ob_ef c_8 hf
    refine lv_iload_n hx hb d_St_writePage_11 rfl (lv_at hl 2 rfl) ?_
    obtain ⟨q_12, hc_12, hf⟩ := oc_e hf
    refine kcSN (cc := c_St_writePage) (own := "FloodDiary$State") (index := 78) (wc := ([] : va_W)) (wr := W_St G a v) (wc' := ([] : va_W)) (ws' := W_St G a v) hx hb hml hown hts hK hN hA hP hD hS (t_Fd_isPage l G l2 q_12 hc_12) m_Fd_isPage nsM_8 ⟨Nat.le_of_ble_eq_true rfl, Nat.le_of_ble_eq_true rfl⟩ (List.Perm.refl _) (List.Perm.refl _) rfl rfl (Nat.le_of_ble_eq_true rfl) hl.1 d_St_writePage_12 ⟨Nat.zero_le _, Nat.zero_le _⟩ (fun H locs hP hD hS => ?_)
    refine lv_if_ne (tgt := 20) hx hb d_St_writePage_15 (by decide) (fun c_15 => ?_) (fun c_15 => ?_)
    · replace hf := ob_ef c_15 hf
      refine lv_iload_n hx hb d_St_writePage_20 rfl (lv_at hl 3 rfl) ?_
      refine lv_if_lt (tgt := 31) hx hb d_St_writePage_21 (by decide) (fun c_21 => ?_) (fun c_21 => ?_)
      · replace hf := ob_et c_21 hf
        refine lv_bipush (v := (-2 : Int32)) hx hb d_St_writePage_31 (by decide) ?_
        cases hf
        exact kI hx hb hr hlk hP hD hS d_St_writePage_33
      · replace hf := ob_ef c_21 hf
        refine lv_iload_n hx hb d_St_writePage_24 rfl (lv_at hl 3 rfl) ?_
        refine lv_sipush (v := (999 : Int32)) hx hb d_St_writePage_25 (by decide) ?_
        refine lv_icmp_le (tgt := 34) hx hb d_St_writePage_28 (by decide) (fun c_28 => ?_) (fun c_28 => ?_)
        · replace hf := ob_et c_28 hf
          refine lv_aload_n hx hb d_St_writePage_34 rfl (lv_at hl 0 rfl) ?_
          refine va_get (D := G.1) (ci := 6) (v := .ref (a 6)) (C := R_St) (T := T_St) (N := 9) hx hb hts in_St hown hK hP 0 rfl rfl 1 (by decide) (hts _ k_116) (fun _ h9 => h9) rfl d_St_writePage_35 ?_
          obtain ⟨q_38, hc_38, hf⟩ := oc_e hf
          refine kcV (cc := c_St_writePage) (own := "FloodDiary$State") (index := 66) (wc := W_Dy G (sh a 6) v.2.1) (wr := O_St G a v ++ (W_Pg G (sh a 1) v.1 ++ (W_Wk G (sh a 14) v.2.2.1 ++ (([] : va_W))))) (wc' := W_Dy G (sh a 6) v.2.1) (ws' := W_St G a v) hx hb hml hown hts hK hN hA hP hD hS (t_Dy_isFull l G (sh a 6) v.2.1 q_38 hc_38) m_Dy_isFull k_274 ⟨Nat.le_of_ble_eq_true rfl, Nat.le_of_ble_eq_true rfl⟩ (pm_7 (O_St G a v) (W_Pg G (sh a 1) v.1) (W_Dy G (sh a 6) v.2.1) (W_Wk G (sh a 14) v.2.2.1)) (pm_7 (O_St G a v) (W_Pg G (sh a 1) v.1) (W_Dy G (sh a 6) v.2.1) (W_Wk G (sh a 14) v.2.2.1)).symm 0 0 rfl rfl rfl rfl rfl (Nat.le_of_ble_eq_true rfl) hl.1 d_St_writePage_38 ⟨Nat.zero_le _, Nat.zero_le _⟩ (fun H locs hP hD hS => ?_)
          refine lv_if_eq (tgt := 47) hx hb d_St_writePage_41 (by decide) (fun c_41 => ?_) (fun c_41 => ?_)
          · replace hf := ob_et c_41 hf
            refine lv_aload_n hx hb d_St_writePage_47 rfl (lv_at hl 0 rfl) ?_
            refine va_get (D := G.1) (ci := 6) (v := .ref (a 14)) (C := R_St) (T := T_St) (N := 9) hx hb hts in_St hown hK hP 0 rfl rfl 2 (by decide) (hts _ k_118) (fun _ h9 => h9) rfl d_St_writePage_48 ?_
            refine lv_iload_n hx hb d_St_writePage_51 rfl (lv_at hl 2 rfl) ?_
            obtain ⟨q_52, hc_52, hf⟩ := oc_e hf
            refine kcV (cc := c_St_writePage) (own := "FloodDiary$State") (index := 81) (wc := W_Wk G (sh a 14) v.2.2.1) (wr := O_St G a v ++ (W_Pg G (sh a 1) v.1 ++ (W_Dy G (sh a 6) v.2.1 ++ (([] : va_W))))) (wc' := W_Wk G (sh a 14) v.2.2.1) (ws' := W_St G a v) hx hb hml hown hts hK hN hA hP hD hS (t_Wk_holderOf l G (sh a 14) l2 v.2.2.1 q_52 hc_52) m_Wk_holderOf k_314 ⟨Nat.le_of_ble_eq_true rfl, Nat.le_of_ble_eq_true rfl⟩ (pm_6 (O_St G a v) (W_Pg G (sh a 1) v.1) (W_Dy G (sh a 6) v.2.1) (W_Wk G (sh a 14) v.2.2.1)) (pm_6 (O_St G a v) (W_Pg G (sh a 1) v.1) (W_Dy G (sh a 6) v.2.1) (W_Wk G (sh a 14) v.2.2.1)).symm 7 0 rfl rfl rfl rfl rfl (Nat.le_of_ble_eq_true rfl) hl.1 d_St_writePage_52 ⟨Nat.zero_le _, Nat.zero_le _⟩ (fun H locs hP hD hS => ?_)
            refine lv_istore (lv' := [(4, .int q_52), (0, .ref (a 0)), (1, .int l1), (2, .int l2), (3, .int l3)]) hx hb d_St_writePage_55 hl (by decide) rfl (fun ls hl => ?_)
            refine lv_aload_n hx hb d_St_writePage_57 rfl (lv_at hl 1 rfl) ?_
            refine va_get (D := G.1) (ci := 6) (v := .int v.2.2.2.1) (C := R_St) (T := T_St) (N := 9) hx hb hts in_St hown hK hP 0 rfl rfl 3 (by decide) (hts _ k_120) (fun _ h9 => h9) rfl d_St_writePage_58 ?_
            refine lv_if_ne (tgt := 88) hx hb d_St_writePage_61 (by decide) (fun c_61 => ?_) (fun c_61 => ?_)
            · replace hf := ob_ef c_61 hf
              refine lv_bipush (v := (-5 : Int32)) hx hb d_St_writePage_88 (by decide) ?_
              cases hf
              exact kI hx hb hr hlk hP hD hS d_St_writePage_90
            · replace hf := ob_et c_61 hf
              refine lv_aload_n hx hb d_St_writePage_64 rfl (lv_at hl 1 rfl) ?_
              refine va_get (D := G.1) (ci := 6) (v := .ref (a 14)) (C := R_St) (T := T_St) (N := 9) hx hb hts in_St hown hK hP 0 rfl rfl 2 (by decide) (hts _ k_118) (fun _ h9 => h9) rfl d_St_writePage_65 ?_
              refine lv_iload_n hx hb d_St_writePage_68 rfl (lv_at hl 2 rfl) ?_
              obtain ⟨q_69, hc_69, hf⟩ := oc_e hf
              refine kcV (cc := c_St_writePage) (own := "FloodDiary$State") (index := 85) (wc := W_Wk G (sh a 14) v.2.2.1) (wr := O_St G a v ++ (W_Pg G (sh a 1) v.1 ++ (W_Dy G (sh a 6) v.2.1 ++ (([] : va_W))))) (wc' := W_Wk G (sh a 14) v.2.2.1) (ws' := W_St G a v) hx hb hml hown hts hK hN hA hP hD hS (t_Wk_isOpen l G (sh a 14) l1 v.2.2.1 q_69 hc_69) m_Wk_isOpen k_327 ⟨Nat.le_of_ble_eq_true rfl, Nat.le_of_ble_eq_true rfl⟩ (pm_6 (O_St G a v) (W_Pg G (sh a 1) v.1) (W_Dy G (sh a 6) v.2.1) (W_Wk G (sh a 14) v.2.2.1)) (pm_6 (O_St G a v) (W_Pg G (sh a 1) v.1) (W_Dy G (sh a 6) v.2.1) (W_Wk G (sh a 14) v.2.2.1)).symm 7 0 rfl rfl rfl rfl rfl (Nat.le_of_ble_eq_true rfl) hl.1 d_St_writePage_69 ⟨Nat.zero_le _, Nat.zero_le _⟩ (fun H locs hP hD hS => ?_)
              refine lv_if_eq (tgt := 88) hx hb d_St_writePage_72 (by decide) (fun c_72 => ?_) (fun c_72 => ?_)
              · replace hf := ob_et c_72 hf
                refine lv_bipush (v := (-5 : Int32)) hx hb d_St_writePage_88 (by decide) ?_
                cases hf
                exact kI hx hb hr hlk hP hD hS d_St_writePage_90
              · replace hf := ob_ef c_72 hf
                refine lv_iload hx hb d_St_writePage_75 (lv_at hl 0 rfl) ?_
                refine lv_bipush (v := (-6 : Int32)) hx hb d_St_writePage_77 (by decide) ?_
                refine lv_icmp_eq (tgt := 91) hx hb d_St_writePage_79 (by decide) (fun c_79 => ?_) (fun c_79 => ?_)
                · replace hf := ob_et c_79 hf
                  exact J_91 l1 l2 l3 v _ _ ls hP hD hS (lv_sub hl [1, 2, 3, 4] rfl) hf
                · replace hf := ob_ef c_79 hf
                  refine lv_iload hx hb d_St_writePage_82 (lv_at hl 0 rfl) ?_
                  refine lv_iload_n hx hb d_St_writePage_84 rfl (lv_at hl 2 rfl) ?_
                  refine lv_icmp_eq (tgt := 91) hx hb d_St_writePage_85 (by decide) (fun c_85 => ?_) (fun c_85 => ?_)
                  · replace hf := ob_et c_85 hf
                    exact J_91 l1 l2 l3 v _ _ ls hP hD hS (lv_sub hl [1, 2, 3, 4] rfl) hf
                  · replace hf := ob_ef c_85 hf
                    refine lv_bipush (v := (-5 : Int32)) hx hb d_St_writePage_88 (by decide) ?_
                    cases hf
                    exact kI hx hb hr hlk hP hD hS d_St_writePage_90
          · replace hf := ob_ef c_41 hf
            refine lv_bipush (v := (-4 : Int32)) hx hb d_St_writePage_44 (by decide) ?_
            cases hf
            exact kI hx hb hr hlk hP hD hS d_St_writePage_46
        · replace hf := ob_ef c_28 hf
          refine lv_bipush (v := (-2 : Int32)) hx hb d_St_writePage_31 (by decide) ?_
          cases hf
          exact kI hx hb hr hlk hP hD hS d_St_writePage_33
    · replace hf := ob_et c_15 hf
      refine lv_iconst (v := (-1 : Int32)) hx hb d_St_writePage_18 (by decide) ?_
      cases hf
      exact kI hx hb hr hlk hP hD hS d_St_writePage_19
set_option maxHeartbeats 4000000 in
set_option maxRecDepth 100000 in
theorem t_St_finishWork (l : Launch) (G : GG) (a : Nat → Nat) (l1 : Int32) (v : V_St) (q : Int32 × V_St) (hf : f_St_finishWork l1 v = some q) : MI l G y_St_finishWork c_St_finishWork 3 (some .int) (rmk 3 70) (W_St G a v) [.ref (a 0), .int l1] (W_St G a q.2) (q.1) := by
  refine ofI "FloodDiary$State" (by decide +kernel) rfl (Nat.le_of_ble_eq_true rfl) (fun p e s m args below meth c A ls hx hb hr hml hown hts hlk hK hN hA hP hD hS hl => ?_)
  have hl : lv_has ls 3 [(0, .ref (a 0)), (1, .int l1)] := hl
  unfold f_St_finishWork at hf
  refine lv_aload_n hx hb d_St_finishWork_0 rfl (lv_at hl 0 rfl) ?_
  refine va_get (D := G.1) (ci := 6) (v := .ref (a 14)) (C := R_St) (T := T_St) (N := 9) hx hb hts in_St hown hK hP 0 rfl rfl 2 (by decide) (hts _ k_118) (fun _ h9 => h9) rfl d_St_finishWork_1 ?_
  refine lv_iload_n hx hb d_St_finishWork_4 rfl (lv_at hl 1 rfl) ?_
  obtain ⟨q_5, hc_5, hf⟩ := oc_e hf
  refine kcV (cc := c_St_finishWork) (own := "FloodDiary$State") (index := 74) (wc := W_Wk G (sh a 14) v.2.2.1) (wr := O_St G a v ++ (W_Pg G (sh a 1) v.1 ++ (W_Dy G (sh a 6) v.2.1 ++ (([] : va_W))))) (wc' := W_Wk G (sh a 14) v.2.2.1) (ws' := W_St G a v) hx hb hml hown hts hK hN hA hP hD hS (t_Wk_has l G (sh a 14) l1 v.2.2.1 q_5 hc_5) m_Wk_has k_310 ⟨Nat.le_of_ble_eq_true rfl, Nat.le_of_ble_eq_true rfl⟩ (pm_6 (O_St G a v) (W_Pg G (sh a 1) v.1) (W_Dy G (sh a 6) v.2.1) (W_Wk G (sh a 14) v.2.2.1)) (pm_6 (O_St G a v) (W_Pg G (sh a 1) v.1) (W_Dy G (sh a 6) v.2.1) (W_Wk G (sh a 14) v.2.2.1)).symm 7 0 rfl rfl rfl rfl rfl (Nat.le_of_ble_eq_true rfl) hl.1 d_St_finishWork_5 ⟨Nat.zero_le _, Nat.zero_le _⟩ (fun H locs hP hD hS => ?_)
  refine lv_if_ne (tgt := 13) hx hb d_St_finishWork_8 (by decide) (fun c_8 => ?_) (fun c_8 => ?_)
  · replace hf := ob_ef c_8 hf
    refine lv_aload_n hx hb d_St_finishWork_13 rfl (lv_at hl 0 rfl) ?_
    refine va_get (D := G.1) (ci := 6) (v := .ref (a 6)) (C := R_St) (T := T_St) (N := 9) hx hb hts in_St hown hK hP 0 rfl rfl 1 (by decide) (hts _ k_116) (fun _ h9 => h9) rfl d_St_finishWork_14 ?_
    obtain ⟨q_17, hc_17, hf⟩ := oc_e hf
    refine kcV (cc := c_St_finishWork) (own := "FloodDiary$State") (index := 66) (wc := W_Dy G (sh a 6) v.2.1) (wr := O_St G a v ++ (W_Pg G (sh a 1) v.1 ++ (W_Wk G (sh a 14) v.2.2.1 ++ (([] : va_W))))) (wc' := W_Dy G (sh a 6) v.2.1) (ws' := W_St G a v) hx hb hml hown hts hK hN hA hP hD hS (t_Dy_isFull l G (sh a 6) v.2.1 q_17 hc_17) m_Dy_isFull k_274 ⟨Nat.le_of_ble_eq_true rfl, Nat.le_of_ble_eq_true rfl⟩ (pm_7 (O_St G a v) (W_Pg G (sh a 1) v.1) (W_Dy G (sh a 6) v.2.1) (W_Wk G (sh a 14) v.2.2.1)) (pm_7 (O_St G a v) (W_Pg G (sh a 1) v.1) (W_Dy G (sh a 6) v.2.1) (W_Wk G (sh a 14) v.2.2.1)).symm 0 0 rfl rfl rfl rfl rfl (Nat.le_of_ble_eq_true rfl) hl.1 d_St_finishWork_17 ⟨Nat.zero_le _, Nat.zero_le _⟩ (fun H locs hP hD hS => ?_)
    refine lv_if_eq (tgt := 26) hx hb d_St_finishWork_20 (by decide) (fun c_20 => ?_) (fun c_20 => ?_)
    · replace hf := ob_et c_20 hf
      refine lv_aload_n hx hb d_St_finishWork_26 rfl (lv_at hl 0 rfl) ?_
      refine va_get (D := G.1) (ci := 6) (v := .int v.2.2.2.1) (C := R_St) (T := T_St) (N := 9) hx hb hts in_St hown hK hP 0 rfl rfl 3 (by decide) (hts _ k_120) (fun _ h9 => h9) rfl d_St_finishWork_27 ?_
      refine lv_if_ne (tgt := 44) hx hb d_St_finishWork_30 (by decide) (fun c_30 => ?_) (fun c_30 => ?_)
      · replace hf := ob_ef c_30 hf
        refine lv_bipush (v := (-5 : Int32)) hx hb d_St_finishWork_44 (by decide) ?_
        cases hf
        exact kI hx hb hr hlk hP hD hS d_St_finishWork_46
      · replace hf := ob_et c_30 hf
        refine lv_aload_n hx hb d_St_finishWork_33 rfl (lv_at hl 0 rfl) ?_
        refine va_get (D := G.1) (ci := 6) (v := .ref (a 14)) (C := R_St) (T := T_St) (N := 9) hx hb hts in_St hown hK hP 0 rfl rfl 2 (by decide) (hts _ k_118) (fun _ h9 => h9) rfl d_St_finishWork_34 ?_
        refine lv_iload_n hx hb d_St_finishWork_37 rfl (lv_at hl 1 rfl) ?_
        obtain ⟨q_38, hc_38, hf⟩ := oc_e hf
        refine kcV (cc := c_St_finishWork) (own := "FloodDiary$State") (index := 85) (wc := W_Wk G (sh a 14) v.2.2.1) (wr := O_St G a v ++ (W_Pg G (sh a 1) v.1 ++ (W_Dy G (sh a 6) v.2.1 ++ (([] : va_W))))) (wc' := W_Wk G (sh a 14) v.2.2.1) (ws' := W_St G a v) hx hb hml hown hts hK hN hA hP hD hS (t_Wk_isOpen l G (sh a 14) l1 v.2.2.1 q_38 hc_38) m_Wk_isOpen k_327 ⟨Nat.le_of_ble_eq_true rfl, Nat.le_of_ble_eq_true rfl⟩ (pm_6 (O_St G a v) (W_Pg G (sh a 1) v.1) (W_Dy G (sh a 6) v.2.1) (W_Wk G (sh a 14) v.2.2.1)) (pm_6 (O_St G a v) (W_Pg G (sh a 1) v.1) (W_Dy G (sh a 6) v.2.1) (W_Wk G (sh a 14) v.2.2.1)).symm 7 0 rfl rfl rfl rfl rfl (Nat.le_of_ble_eq_true rfl) hl.1 d_St_finishWork_38 ⟨Nat.zero_le _, Nat.zero_le _⟩ (fun H locs hP hD hS => ?_)
        refine lv_if_ne (tgt := 47) hx hb d_St_finishWork_41 (by decide) (fun c_41 => ?_) (fun c_41 => ?_)
        · replace hf := ob_ef c_41 hf
          refine lv_aload_n hx hb d_St_finishWork_47 rfl (lv_at hl 0 rfl) ?_
          refine lv_iconst (v := (3 : Int32)) hx hb d_St_finishWork_48 (by decide) ?_
          refine lv_iload_n hx hb d_St_finishWork_49 rfl (lv_at hl 1 rfl) ?_
          obtain ⟨q_50, hc_50, hf⟩ := oc_e hf
          refine kcV (cc := c_St_finishWork) (own := "FloodDiary$State") (index := 70) (wc := W_St G a v) (wr := ([] : va_W)) (wc' := W_St G a q_50.2) (ws' := W_St G a q_50.2) hx hb hml hown hts hK hN hA hP hD hS (t_St_enter l G a (3 : Int32) l1 v q_50 hc_50) m_St_enter k_278 ⟨Nat.le_of_ble_eq_true rfl, Nat.le_of_ble_eq_true rfl⟩ (pm_0 (W_St G a v)) (pm_0 (W_St G a q_50.2)).symm 6 0 rfl rfl rfl rfl rfl (Nat.le_of_ble_eq_true rfl) hl.1 d_St_finishWork_50 ⟨Nat.zero_le _, Nat.zero_le _⟩ (fun H locs hP hD hS => ?_)
          refine lv_istore_n (lv' := [(2, .int q_50.1), (0, .ref (a 0)), (1, .int l1)]) hx hb d_St_finishWork_53 rfl hl (by decide) rfl (fun ls hl => ?_)
          refine lv_aload_n hx hb d_St_finishWork_54 rfl (lv_at hl 1 rfl) ?_
          refine va_get (D := G.1) (ci := 6) (v := .ref (a 6)) (C := R_St) (T := T_St) (N := 9) hx hb hts in_St hown hK hP 0 rfl rfl 1 (by decide) (hts _ k_116) (fun _ h9 => h9) rfl d_St_finishWork_55 ?_
          refine lv_iload_n hx hb d_St_finishWork_58 rfl (lv_at hl 0 rfl) ?_
          obtain ⟨q_59, hc_59, hf⟩ := oc_e hf
          refine kcVv (cc := c_St_finishWork) (own := "FloodDiary$State") (index := 99) (wc := W_Dy G (sh a 6) q_50.2.2.1) (wr := O_St G a q_50.2 ++ (W_Pg G (sh a 1) q_50.2.1 ++ (W_Wk G (sh a 14) q_50.2.2.2.1 ++ (([] : va_W))))) (wc' := W_Dy G (sh a 6) q_59) (ws' := W_St G a (q_50.2.1, q_59, q_50.2.2.2.1, q_50.2.2.2.2.1, q_50.2.2.2.2.2.1, q_50.2.2.2.2.2.2.1, q_50.2.2.2.2.2.2.2.1, q_50.2.2.2.2.2.2.2.2.1, q_50.2.2.2.2.2.2.2.2.2)) hx hb hml hown hts hK hN hA hP hD hS (t_Dy_saveUpTo l G (sh a 6) q_50.1 q_50.2.2.1 q_59 hc_59) m_Dy_saveUpTo k_366 ⟨Nat.le_of_ble_eq_true rfl, Nat.le_of_ble_eq_true rfl⟩ (pm_7 (O_St G a q_50.2) (W_Pg G (sh a 1) q_50.2.1) (W_Dy G (sh a 6) q_50.2.2.1) (W_Wk G (sh a 14) q_50.2.2.2.1)) (pm_7 (O_St G a (q_50.2.1, q_59, q_50.2.2.2.1, q_50.2.2.2.2.1, q_50.2.2.2.2.2.1, q_50.2.2.2.2.2.2.1, q_50.2.2.2.2.2.2.2.1, q_50.2.2.2.2.2.2.2.2.1, q_50.2.2.2.2.2.2.2.2.2)) (W_Pg G (sh a 1) q_50.2.1) (W_Dy G (sh a 6) q_59) (W_Wk G (sh a 14) q_50.2.2.2.1)).symm 0 0 rfl rfl rfl rfl rfl (Nat.le_of_ble_eq_true rfl) hl.1 d_St_finishWork_59 ⟨Nat.zero_le _, Nat.zero_le _⟩ (fun H locs hP hD hS => ?_)
          refine lv_iload_n hx hb d_St_finishWork_62 rfl (lv_at hl 0 rfl) ?_
          cases hf
          exact kI hx hb hr hlk hP hD hS d_St_finishWork_63
        · replace hf := ob_et c_41 hf
          refine lv_bipush (v := (-5 : Int32)) hx hb d_St_finishWork_44 (by decide) ?_
          cases hf
          exact kI hx hb hr hlk hP hD hS d_St_finishWork_46
    · replace hf := ob_ef c_20 hf
      refine lv_bipush (v := (-4 : Int32)) hx hb d_St_finishWork_23 (by decide) ?_
      cases hf
      exact kI hx hb hr hlk hP hD hS d_St_finishWork_25
  · replace hf := ob_et c_8 hf
    refine lv_iconst (v := (-1 : Int32)) hx hb d_St_finishWork_11 (by decide) ?_
    cases hf
    exact kI hx hb hr hlk hP hD hS d_St_finishWork_12
set_option maxHeartbeats 4000000 in
set_option maxRecDepth 100000 in
theorem t_St_tearWork (l : Launch) (G : GG) (a : Nat → Nat) (l1 : Int32) (v : V_St) (q : Int32 × V_St) (hf : f_St_tearWork l1 v = some q) : MI l G y_St_tearWork c_St_tearWork 4 (some .int) (rmk 4 96) (W_St G a v) [.ref (a 0), .int l1] (W_St G a q.2) (q.1) := by
  refine ofI "FloodDiary$State" (by decide +kernel) rfl (Nat.le_of_ble_eq_true rfl) (fun p e s m args below meth c A ls hx hb hr hml hown hts hlk hK hN hA hP hD hS hl => ?_)
  have hl : lv_has ls 4 [(0, .ref (a 0)), (1, .int l1)] := hl
  have J_60 : ∀ (n_60 : Nat) (l1 : Int32) (l2 : Int32) (l3 : Int32) (v : V_St) (H : Heap) (locs : List Loc) (ls : Array Slot), va_P G.1 vwCl (W_St G a v) H → va_D A (W_St G a v) → va_S A s.heap H locs → lv_has ls 4 [(0, .ref (a 0)), (1, .int l1), (2, .int l2), (3, .int l3)] → f_St_tearWork_60 n_60 l1 l2 l3 v = some q → W p l e (rmk 4 96) s m args below meth c H locs 0 0 (MQ below (qI G A (W_St G a q.2) (q.1)) args s 0 0 A) (F0 m 60 ls []) := by
    intro n_60
    induction n_60 with
    | zero => intro l1 l2 l3 v H locs ls hP hD hS hl hf; exact absurd hf (by unfold f_St_tearWork_60; exact fun z => by cases z)
    | succ n_60 ih_60 =>
      intro l1 l2 l3 v H locs ls hP hD hS hl hf
      rw [f_St_tearWork_60] at hf
      refine lv_iload_n hx hb d_St_tearWork_60 rfl (lv_at hl 3 rfl) ?_
      refine lv_iload_n hx hb d_St_tearWork_61 rfl (lv_at hl 2 rfl) ?_
      refine lv_icmp_ge (tgt := 76) hx hb d_St_tearWork_62 (by decide) (fun c_62 => ?_) (fun c_62 => ?_)
      · replace hf := ob_et c_62 hf
        refine lv_iload_n hx hb d_St_tearWork_76 rfl (lv_at hl 2 rfl) ?_
        cases hf
        exact kI hx hb hr hlk hP hD hS d_St_tearWork_77
      · replace hf := ob_ef c_62 hf
        refine lv_aload_n hx hb d_St_tearWork_65 rfl (lv_at hl 0 rfl) ?_
        refine lv_iload_n hx hb d_St_tearWork_66 rfl (lv_at hl 1 rfl) ?_
        obtain ⟨q_67, hc_67, hf⟩ := oc_e hf
        refine kcVv (cc := c_St_tearWork) (own := "FloodDiary$State") (index := 106) (wc := W_St G a v) (wr := ([] : va_W)) (wc' := W_St G a q_67) (ws' := W_St G a q_67) hx hb hml hown hts hK hN hA hP hD hS (t_St_stepBack l G a l1 v q_67 hc_67) m_St_stepBack k_397 ⟨Nat.le_of_ble_eq_true rfl, Nat.le_of_ble_eq_true rfl⟩ (pm_0 (W_St G a v)) (pm_0 (W_St G a q_67)).symm 6 0 rfl rfl rfl rfl rfl (Nat.le_of_ble_eq_true rfl) hl.1 d_St_tearWork_67 ⟨Nat.zero_le _, Nat.zero_le _⟩ (fun H locs hP hD hS => ?_)
        refine lv_iinc (v := (l3 + (1 : Int32))) (lv' := [(3, .int (l3 + (1 : Int32))), (0, .ref (a 0)), (1, .int l1), (2, .int l2)]) hx hb d_St_tearWork_70 hl (k := 3) rfl rfl (by decide) rfl (fun ls hl => ?_)
        refine lv_goto (tgt := 60) hx hb d_St_tearWork_73 (by decide) ?_
        exact ih_60 l1 l2 (l3 + (1 : Int32)) q_67 _ _ ls hP hD hS (lv_sub hl [1, 2, 3, 0] rfl) hf
  unfold f_St_tearWork at hf
  refine lv_aload_n hx hb d_St_tearWork_0 rfl (lv_at hl 0 rfl) ?_
  refine va_get (D := G.1) (ci := 6) (v := .ref (a 14)) (C := R_St) (T := T_St) (N := 9) hx hb hts in_St hown hK hP 0 rfl rfl 2 (by decide) (hts _ k_118) (fun _ h9 => h9) rfl d_St_tearWork_1 ?_
  refine lv_iload_n hx hb d_St_tearWork_4 rfl (lv_at hl 1 rfl) ?_
  obtain ⟨q_5, hc_5, hf⟩ := oc_e hf
  refine kcV (cc := c_St_tearWork) (own := "FloodDiary$State") (index := 74) (wc := W_Wk G (sh a 14) v.2.2.1) (wr := O_St G a v ++ (W_Pg G (sh a 1) v.1 ++ (W_Dy G (sh a 6) v.2.1 ++ (([] : va_W))))) (wc' := W_Wk G (sh a 14) v.2.2.1) (ws' := W_St G a v) hx hb hml hown hts hK hN hA hP hD hS (t_Wk_has l G (sh a 14) l1 v.2.2.1 q_5 hc_5) m_Wk_has k_310 ⟨Nat.le_of_ble_eq_true rfl, Nat.le_of_ble_eq_true rfl⟩ (pm_6 (O_St G a v) (W_Pg G (sh a 1) v.1) (W_Dy G (sh a 6) v.2.1) (W_Wk G (sh a 14) v.2.2.1)) (pm_6 (O_St G a v) (W_Pg G (sh a 1) v.1) (W_Dy G (sh a 6) v.2.1) (W_Wk G (sh a 14) v.2.2.1)).symm 7 0 rfl rfl rfl rfl rfl (Nat.le_of_ble_eq_true rfl) hl.1 d_St_tearWork_5 ⟨Nat.zero_le _, Nat.zero_le _⟩ (fun H locs hP hD hS => ?_)
  refine lv_if_ne (tgt := 13) hx hb d_St_tearWork_8 (by decide) (fun c_8 => ?_) (fun c_8 => ?_)
  · replace hf := ob_ef c_8 hf
    refine lv_aload_n hx hb d_St_tearWork_13 rfl (lv_at hl 0 rfl) ?_
    refine va_get (D := G.1) (ci := 6) (v := .int v.2.2.2.1) (C := R_St) (T := T_St) (N := 9) hx hb hts in_St hown hK hP 0 rfl rfl 3 (by decide) (hts _ k_120) (fun _ h9 => h9) rfl d_St_tearWork_14 ?_
    refine lv_if_ne (tgt := 31) hx hb d_St_tearWork_17 (by decide) (fun c_17 => ?_) (fun c_17 => ?_)
    · replace hf := ob_ef c_17 hf
      refine lv_bipush (v := (-5 : Int32)) hx hb d_St_tearWork_31 (by decide) ?_
      cases hf
      exact kI hx hb hr hlk hP hD hS d_St_tearWork_33
    · replace hf := ob_et c_17 hf
      refine lv_aload_n hx hb d_St_tearWork_20 rfl (lv_at hl 0 rfl) ?_
      refine va_get (D := G.1) (ci := 6) (v := .ref (a 14)) (C := R_St) (T := T_St) (N := 9) hx hb hts in_St hown hK hP 0 rfl rfl 2 (by decide) (hts _ k_118) (fun _ h9 => h9) rfl d_St_tearWork_21 ?_
      refine lv_iload_n hx hb d_St_tearWork_24 rfl (lv_at hl 1 rfl) ?_
      obtain ⟨q_25, hc_25, hf⟩ := oc_e hf
      refine kcV (cc := c_St_tearWork) (own := "FloodDiary$State") (index := 85) (wc := W_Wk G (sh a 14) v.2.2.1) (wr := O_St G a v ++ (W_Pg G (sh a 1) v.1 ++ (W_Dy G (sh a 6) v.2.1 ++ (([] : va_W))))) (wc' := W_Wk G (sh a 14) v.2.2.1) (ws' := W_St G a v) hx hb hml hown hts hK hN hA hP hD hS (t_Wk_isOpen l G (sh a 14) l1 v.2.2.1 q_25 hc_25) m_Wk_isOpen k_327 ⟨Nat.le_of_ble_eq_true rfl, Nat.le_of_ble_eq_true rfl⟩ (pm_6 (O_St G a v) (W_Pg G (sh a 1) v.1) (W_Dy G (sh a 6) v.2.1) (W_Wk G (sh a 14) v.2.2.1)) (pm_6 (O_St G a v) (W_Pg G (sh a 1) v.1) (W_Dy G (sh a 6) v.2.1) (W_Wk G (sh a 14) v.2.2.1)).symm 7 0 rfl rfl rfl rfl rfl (Nat.le_of_ble_eq_true rfl) hl.1 d_St_tearWork_25 ⟨Nat.zero_le _, Nat.zero_le _⟩ (fun H locs hP hD hS => ?_)
      refine lv_if_ne (tgt := 34) hx hb d_St_tearWork_28 (by decide) (fun c_28 => ?_) (fun c_28 => ?_)
      · replace hf := ob_ef c_28 hf
        refine lv_aload_n hx hb d_St_tearWork_34 rfl (lv_at hl 0 rfl) ?_
        refine lv_iload_n hx hb d_St_tearWork_35 rfl (lv_at hl 1 rfl) ?_
        obtain ⟨q_36, hc_36, hf⟩ := oc_e hf
        refine kcV (cc := c_St_tearWork) (own := "FloodDiary$State") (index := 102) (wc := W_St G a v) (wr := ([] : va_W)) (wc' := W_St G a v) (ws' := W_St G a v) hx hb hml hown hts hK hN hA hP hD hS (t_St_stepsToTear l G a l1 v q_36 hc_36) m_St_stepsToTear k_381 ⟨Nat.le_of_ble_eq_true rfl, Nat.le_of_ble_eq_true rfl⟩ (pm_0 (W_St G a v)) (pm_0 (W_St G a v)).symm 6 0 rfl rfl rfl rfl rfl (Nat.le_of_ble_eq_true rfl) hl.1 d_St_tearWork_36 ⟨Nat.zero_le _, Nat.zero_le _⟩ (fun H locs hP hD hS => ?_)
        refine lv_istore_n (lv' := [(2, .int q_36), (0, .ref (a 0)), (1, .int l1)]) hx hb d_St_tearWork_39 rfl hl (by decide) rfl (fun ls hl => ?_)
        refine lv_aload_n hx hb d_St_tearWork_40 rfl (lv_at hl 1 rfl) ?_
        refine va_get (D := G.1) (ci := 6) (v := .ref (a 6)) (C := R_St) (T := T_St) (N := 9) hx hb hts in_St hown hK hP 0 rfl rfl 1 (by decide) (hts _ k_116) (fun _ h9 => h9) rfl d_St_tearWork_41 ?_
        refine va_getN (D := G.1) (ci := 0) (v := .int v.2.1.2.2.2.2.2.2.2.1) (C := R_Dy) (T := T_Dy) (N := 9) (host := "FloodDiary") hx hb hts in_Dy hown hK hP 6 rfl rfl 7 (by decide) (va_Nw.use rfl (hN.1 _ nsF_0)) (fun _ h9 => h9) rfl d_St_tearWork_44 ?_
        refine lv_iload_n hx hb d_St_tearWork_47 rfl (lv_at hl 0 rfl) ?_
        refine lv_iadd hx hb d_St_tearWork_48 ?_
        refine lv_sipush (v := (150 : Int32)) hx hb d_St_tearWork_49 (by decide) ?_
        refine lv_icmp_le (tgt := 58) hx hb d_St_tearWork_52 (by decide) (fun c_52 => ?_) (fun c_52 => ?_)
        · replace hf := ob_et c_52 hf
          refine lv_iconst (v := (0 : Int32)) hx hb d_St_tearWork_58 (by decide) ?_
          refine lv_istore_n (lv' := [(3, .int (0 : Int32)), (2, .int q_36), (0, .ref (a 0)), (1, .int l1)]) hx hb d_St_tearWork_59 rfl hl (by decide) rfl (fun ls hl => ?_)
          exact J_60 FU l1 q_36 (0 : Int32) v _ _ ls hP hD hS (lv_sub hl [2, 3, 1, 0] rfl) hf
        · replace hf := ob_ef c_52 hf
          refine lv_bipush (v := (-4 : Int32)) hx hb d_St_tearWork_55 (by decide) ?_
          cases hf
          exact kI hx hb hr hlk hP hD hS d_St_tearWork_57
      · replace hf := ob_et c_28 hf
        refine lv_bipush (v := (-5 : Int32)) hx hb d_St_tearWork_31 (by decide) ?_
        cases hf
        exact kI hx hb hr hlk hP hD hS d_St_tearWork_33
  · replace hf := ob_et c_8 hf
    refine lv_iconst (v := (-1 : Int32)) hx hb d_St_tearWork_11 (by decide) ?_
    cases hf
    exact kI hx hb hr hlk hP hD hS d_St_tearWork_12
set_option maxHeartbeats 4000000 in
set_option maxRecDepth 100000 in
theorem t_St_saveEntries (l : Launch) (G : GG) (a : Nat → Nat) (l1 : Int32) (v : V_St) (q : Int32 × V_St) (hf : f_St_saveEntries l1 v = some q) : MI l G y_St_saveEntries c_St_saveEntries 2 (some .int) (rmk 2 35) (W_St G a v) [.ref (a 0), .int l1] (W_St G a q.2) (q.1) := by
  refine ofI "FloodDiary$State" (by decide +kernel) rfl (Nat.le_of_ble_eq_true rfl) (fun p e s m args below meth c A ls hx hb hr hml hown hts hlk hK hN hA hP hD hS hl => ?_)
  have hl : lv_has ls 2 [(0, .ref (a 0)), (1, .int l1)] := hl
  unfold f_St_saveEntries at hf
  refine lv_aload_n hx hb d_St_saveEntries_0 rfl (lv_at hl 0 rfl) ?_
  refine va_get (D := G.1) (ci := 6) (v := .ref (a 6)) (C := R_St) (T := T_St) (N := 9) hx hb hts in_St hown hK hP 0 rfl rfl 1 (by decide) (hts _ k_116) (fun _ h9 => h9) rfl d_St_saveEntries_1 ?_
  refine lv_iload_n hx hb d_St_saveEntries_4 rfl (lv_at hl 1 rfl) ?_
  obtain ⟨q_5, hc_5, hf⟩ := oc_e hf
  refine kcV (cc := c_St_saveEntries) (own := "FloodDiary$State") (index := 109) (wc := W_Dy G (sh a 6) v.2.1) (wr := O_St G a v ++ (W_Pg G (sh a 1) v.1 ++ (W_Wk G (sh a 14) v.2.2.1 ++ (([] : va_W))))) (wc' := W_Dy G (sh a 6) v.2.1) (ws' := W_St G a v) hx hb hml hown hts hK hN hA hP hD hS (t_Dy_has l G (sh a 6) l1 v.2.1 q_5 hc_5) m_Dy_has k_417 ⟨Nat.le_of_ble_eq_true rfl, Nat.le_of_ble_eq_true rfl⟩ (pm_7 (O_St G a v) (W_Pg G (sh a 1) v.1) (W_Dy G (sh a 6) v.2.1) (W_Wk G (sh a 14) v.2.2.1)) (pm_7 (O_St G a v) (W_Pg G (sh a 1) v.1) (W_Dy G (sh a 6) v.2.1) (W_Wk G (sh a 14) v.2.2.1)).symm 0 0 rfl rfl rfl rfl rfl (Nat.le_of_ble_eq_true rfl) hl.1 d_St_saveEntries_5 ⟨Nat.zero_le _, Nat.zero_le _⟩ (fun H locs hP hD hS => ?_)
  refine lv_if_ne (tgt := 13) hx hb d_St_saveEntries_8 (by decide) (fun c_8 => ?_) (fun c_8 => ?_)
  · replace hf := ob_ef c_8 hf
    refine lv_aload_n hx hb d_St_saveEntries_13 rfl (lv_at hl 0 rfl) ?_
    refine va_get (D := G.1) (ci := 6) (v := .int v.2.2.2.1) (C := R_St) (T := T_St) (N := 9) hx hb hts in_St hown hK hP 0 rfl rfl 3 (by decide) (hts _ k_120) (fun _ h9 => h9) rfl d_St_saveEntries_14 ?_
    refine lv_if_eq (tgt := 23) hx hb d_St_saveEntries_17 (by decide) (fun c_17 => ?_) (fun c_17 => ?_)
    · replace hf := ob_et c_17 hf
      refine lv_aload_n hx hb d_St_saveEntries_23 rfl (lv_at hl 0 rfl) ?_
      refine va_get (D := G.1) (ci := 6) (v := .ref (a 6)) (C := R_St) (T := T_St) (N := 9) hx hb hts in_St hown hK hP 0 rfl rfl 1 (by decide) (hts _ k_116) (fun _ h9 => h9) rfl d_St_saveEntries_24 ?_
      refine lv_iload_n hx hb d_St_saveEntries_27 rfl (lv_at hl 1 rfl) ?_
      obtain ⟨q_28, hc_28, hf⟩ := oc_e hf
      refine kcVv (cc := c_St_saveEntries) (own := "FloodDiary$State") (index := 99) (wc := W_Dy G (sh a 6) v.2.1) (wr := O_St G a v ++ (W_Pg G (sh a 1) v.1 ++ (W_Wk G (sh a 14) v.2.2.1 ++ (([] : va_W))))) (wc' := W_Dy G (sh a 6) q_28) (ws' := W_St G a (v.1, q_28, v.2.2.1, v.2.2.2.1, v.2.2.2.2.1, v.2.2.2.2.2.1, v.2.2.2.2.2.2.1, v.2.2.2.2.2.2.2.1, v.2.2.2.2.2.2.2.2)) hx hb hml hown hts hK hN hA hP hD hS (t_Dy_saveUpTo l G (sh a 6) l1 v.2.1 q_28 hc_28) m_Dy_saveUpTo k_366 ⟨Nat.le_of_ble_eq_true rfl, Nat.le_of_ble_eq_true rfl⟩ (pm_7 (O_St G a v) (W_Pg G (sh a 1) v.1) (W_Dy G (sh a 6) v.2.1) (W_Wk G (sh a 14) v.2.2.1)) (pm_7 (O_St G a (v.1, q_28, v.2.2.1, v.2.2.2.1, v.2.2.2.2.1, v.2.2.2.2.2.1, v.2.2.2.2.2.2.1, v.2.2.2.2.2.2.2.1, v.2.2.2.2.2.2.2.2)) (W_Pg G (sh a 1) v.1) (W_Dy G (sh a 6) q_28) (W_Wk G (sh a 14) v.2.2.1)).symm 0 0 rfl rfl rfl rfl rfl (Nat.le_of_ble_eq_true rfl) hl.1 d_St_saveEntries_28 ⟨Nat.zero_le _, Nat.zero_le _⟩ (fun H locs hP hD hS => ?_)
      refine lv_aload_n hx hb d_St_saveEntries_31 rfl (lv_at hl 0 rfl) ?_
      refine va_get (D := G.1) (ci := 6) (v := .ref (a 6)) (C := R_St) (T := T_St) (N := 9) hx hb hts in_St hown hK hP 0 rfl rfl 1 (by decide) (hts _ k_116) (fun _ h9 => h9) rfl d_St_saveEntries_32 ?_
      refine va_getN (D := G.1) (ci := 0) (v := .int q_28.2.2.2.2.2.2.2.2) (C := R_Dy) (T := T_Dy) (N := 9) (host := "FloodDiary") hx hb hts in_Dy hown hK hP 6 rfl rfl 8 (by decide) (va_Nw.use rfl (hN.1 _ nsF_3)) (fun _ h9 => h9) rfl d_St_saveEntries_35 ?_
      cases hf
      exact kI hx hb hr hlk hP hD hS d_St_saveEntries_38
    · replace hf := ob_ef c_17 hf
      refine lv_bipush (v := (-5 : Int32)) hx hb d_St_saveEntries_20 (by decide) ?_
      cases hf
      exact kI hx hb hr hlk hP hD hS d_St_saveEntries_22
  · replace hf := ob_et c_8 hf
    refine lv_iconst (v := (-1 : Int32)) hx hb d_St_saveEntries_11 (by decide) ?_
    cases hf
    exact kI hx hb hr hlk hP hD hS d_St_saveEntries_12
set_option maxHeartbeats 4000000 in
set_option maxRecDepth 100000 in
theorem t_St_shelvePage (l : Launch) (G : GG) (a : Nat → Nat) (l1 : Int32) (v : V_St) (q : Int32 × V_St) (hf : f_St_shelvePage l1 v = some q) : MI l G y_St_shelvePage c_St_shelvePage 2 (some .int) (rmk 3 62) (W_St G a v) [.ref (a 0), .int l1] (W_St G a q.2) (q.1) := by
  refine ofI "FloodDiary$State" (by decide +kernel) rfl (Nat.le_of_ble_eq_true rfl) (fun p e s m args below meth c A ls hx hb hr hml hown hts hlk hK hN hA hP hD hS hl => ?_)
  have hl : lv_has ls 2 [(0, .ref (a 0)), (1, .int l1)] := hl
  unfold f_St_shelvePage at hf
  refine lv_iload_n hx hb d_St_shelvePage_0 rfl (lv_at hl 1 rfl) ?_
  obtain ⟨q_1, hc_1, hf⟩ := oc_e hf
  refine kcSN (cc := c_St_shelvePage) (own := "FloodDiary$State") (index := 78) (wc := ([] : va_W)) (wr := W_St G a v) (wc' := ([] : va_W)) (ws' := W_St G a v) hx hb hml hown hts hK hN hA hP hD hS (t_Fd_isPage l G l1 q_1 hc_1) m_Fd_isPage nsM_8 ⟨Nat.le_of_ble_eq_true rfl, Nat.le_of_ble_eq_true rfl⟩ (List.Perm.refl _) (List.Perm.refl _) rfl rfl (Nat.le_of_ble_eq_true rfl) hl.1 d_St_shelvePage_1 ⟨Nat.zero_le _, Nat.zero_le _⟩ (fun H locs hP hD hS => ?_)
  refine lv_if_ne (tgt := 9) hx hb d_St_shelvePage_4 (by decide) (fun c_4 => ?_) (fun c_4 => ?_)
  · replace hf := ob_ef c_4 hf
    refine lv_aload_n hx hb d_St_shelvePage_9 rfl (lv_at hl 0 rfl) ?_
    refine va_get (D := G.1) (ci := 6) (v := .int v.2.2.2.1) (C := R_St) (T := T_St) (N := 9) hx hb hts in_St hown hK hP 0 rfl rfl 3 (by decide) (hts _ k_120) (fun _ h9 => h9) rfl d_St_shelvePage_10 ?_
    refine lv_if_ne (tgt := 27) hx hb d_St_shelvePage_13 (by decide) (fun c_13 => ?_) (fun c_13 => ?_)
    · replace hf := ob_ef c_13 hf
      refine lv_bipush (v := (-5 : Int32)) hx hb d_St_shelvePage_27 (by decide) ?_
      cases hf
      exact kI hx hb hr hlk hP hD hS d_St_shelvePage_29
    · replace hf := ob_et c_13 hf
      refine lv_aload_n hx hb d_St_shelvePage_16 rfl (lv_at hl 0 rfl) ?_
      refine va_get (D := G.1) (ci := 6) (v := .ref (a 1)) (C := R_St) (T := T_St) (N := 9) hx hb hts in_St hown hK hP 0 rfl rfl 0 (by decide) (hts _ k_114) (fun _ h9 => h9) rfl d_St_shelvePage_17 ?_
      refine lv_iload_n hx hb d_St_shelvePage_20 rfl (lv_at hl 1 rfl) ?_
      obtain ⟨q_21, hc_21, hf⟩ := oc_e hf
      refine kcV (cc := c_St_shelvePage) (own := "FloodDiary$State") (index := 113) (wc := W_Pg G (sh a 1) v.1) (wr := O_St G a v ++ (W_Dy G (sh a 6) v.2.1 ++ (W_Wk G (sh a 14) v.2.2.1 ++ (([] : va_W))))) (wc' := W_Pg G (sh a 1) v.1) (ws' := W_St G a v) hx hb hml hown hts hK hN hA hP hD hS (t_Pg_isInHand l G (sh a 1) l1 v.1 q_21 hc_21) m_Pg_isInHand k_426 ⟨Nat.le_of_ble_eq_true rfl, Nat.le_of_ble_eq_true rfl⟩ (pm_8 (O_St G a v) (W_Pg G (sh a 1) v.1) (W_Dy G (sh a 6) v.2.1) (W_Wk G (sh a 14) v.2.2.1)) (pm_8 (O_St G a v) (W_Pg G (sh a 1) v.1) (W_Dy G (sh a 6) v.2.1) (W_Wk G (sh a 14) v.2.2.1)).symm 4 0 rfl rfl rfl rfl rfl (Nat.le_of_ble_eq_true rfl) hl.1 d_St_shelvePage_21 ⟨Nat.zero_le _, Nat.zero_le _⟩ (fun H locs hP hD hS => ?_)
      refine lv_if_ne (tgt := 30) hx hb d_St_shelvePage_24 (by decide) (fun c_24 => ?_) (fun c_24 => ?_)
      · replace hf := ob_ef c_24 hf
        refine lv_aload_n hx hb d_St_shelvePage_30 rfl (lv_at hl 0 rfl) ?_
        refine va_get (D := G.1) (ci := 6) (v := .ref (a 6)) (C := R_St) (T := T_St) (N := 9) hx hb hts in_St hown hK hP 0 rfl rfl 1 (by decide) (hts _ k_116) (fun _ h9 => h9) rfl d_St_shelvePage_31 ?_
        refine lv_aload_n hx hb d_St_shelvePage_34 rfl (lv_at hl 0 rfl) ?_
        refine va_get (D := G.1) (ci := 6) (v := .ref (a 1)) (C := R_St) (T := T_St) (N := 9) hx hb hts in_St hown hK hP 0 rfl rfl 0 (by decide) (hts _ k_114) (fun _ h9 => h9) rfl d_St_shelvePage_35 ?_
        refine lv_iload_n hx hb d_St_shelvePage_38 rfl (lv_at hl 1 rfl) ?_
        obtain ⟨q_39, hc_39, hf⟩ := oc_e hf
        refine kcV (cc := c_St_shelvePage) (own := "FloodDiary$State") (index := 116) (wc := W_Pg G (sh a 1) v.1) (wr := O_St G a v ++ (W_Dy G (sh a 6) v.2.1 ++ (W_Wk G (sh a 14) v.2.2.1 ++ (([] : va_W))))) (wc' := W_Pg G (sh a 1) v.1) (ws' := W_St G a v) hx hb hml hown hts hK hN hA hP hD hS (t_Pg_markInHand l G (sh a 1) l1 v.1 q_39 hc_39) m_Pg_markInHand k_427 ⟨Nat.le_of_ble_eq_true rfl, Nat.le_of_ble_eq_true rfl⟩ (pm_8 (O_St G a v) (W_Pg G (sh a 1) v.1) (W_Dy G (sh a 6) v.2.1) (W_Wk G (sh a 14) v.2.2.1)) (pm_8 (O_St G a v) (W_Pg G (sh a 1) v.1) (W_Dy G (sh a 6) v.2.1) (W_Wk G (sh a 14) v.2.2.1)).symm 4 0 rfl rfl rfl rfl rfl (Nat.le_of_ble_eq_true rfl) hl.1 d_St_shelvePage_39 ⟨Nat.zero_le _, Nat.zero_le _⟩ (fun H locs hP hD hS => ?_)
        obtain ⟨q_42, hc_42, hf⟩ := oc_e hf
        refine kcVv (cc := c_St_shelvePage) (own := "FloodDiary$State") (index := 99) (wc := W_Dy G (sh a 6) v.2.1) (wr := O_St G a v ++ (W_Pg G (sh a 1) v.1 ++ (W_Wk G (sh a 14) v.2.2.1 ++ (([] : va_W))))) (wc' := W_Dy G (sh a 6) q_42) (ws' := W_St G a (v.1, q_42, v.2.2.1, v.2.2.2.1, v.2.2.2.2.1, v.2.2.2.2.2.1, v.2.2.2.2.2.2.1, v.2.2.2.2.2.2.2.1, v.2.2.2.2.2.2.2.2)) hx hb hml hown hts hK hN hA hP hD hS (t_Dy_saveUpTo l G (sh a 6) q_39 v.2.1 q_42 hc_42) m_Dy_saveUpTo k_366 ⟨Nat.le_of_ble_eq_true rfl, Nat.le_of_ble_eq_true rfl⟩ (pm_7 (O_St G a v) (W_Pg G (sh a 1) v.1) (W_Dy G (sh a 6) v.2.1) (W_Wk G (sh a 14) v.2.2.1)) (pm_7 (O_St G a (v.1, q_42, v.2.2.1, v.2.2.2.1, v.2.2.2.2.1, v.2.2.2.2.2.1, v.2.2.2.2.2.2.1, v.2.2.2.2.2.2.2.1, v.2.2.2.2.2.2.2.2)) (W_Pg G (sh a 1) v.1) (W_Dy G (sh a 6) q_42) (W_Wk G (sh a 14) v.2.2.1)).symm 0 0 rfl rfl rfl rfl rfl (Nat.le_of_ble_eq_true rfl) hl.1 d_St_shelvePage_42 ⟨Nat.zero_le _, Nat.zero_le _⟩ (fun H locs hP hD hS => ?_)
        refine lv_aload_n hx hb d_St_shelvePage_45 rfl (lv_at hl 0 rfl) ?_
        refine va_get (D := G.1) (ci := 6) (v := .ref (a 1)) (C := R_St) (T := T_St) (N := 9) hx hb hts in_St hown hK hP 0 rfl rfl 0 (by decide) (hts _ k_114) (fun _ h9 => h9) rfl d_St_shelvePage_46 ?_
        refine lv_iload_n hx hb d_St_shelvePage_49 rfl (lv_at hl 1 rfl) ?_
        obtain ⟨q_50, hc_50, hf⟩ := oc_e hf
        refine kcVv (cc := c_St_shelvePage) (own := "FloodDiary$State") (index := 119) (wc := W_Pg G (sh a 1) v.1) (wr := O_St G a (v.1, q_42, v.2.2.1, v.2.2.2.1, v.2.2.2.2.1, v.2.2.2.2.2.1, v.2.2.2.2.2.2.1, v.2.2.2.2.2.2.2.1, v.2.2.2.2.2.2.2.2) ++ (W_Dy G (sh a 6) q_42 ++ (W_Wk G (sh a 14) v.2.2.1 ++ (([] : va_W))))) (wc' := W_Pg G (sh a 1) q_50) (ws' := W_St G a (q_50, q_42, v.2.2.1, v.2.2.2.1, v.2.2.2.2.1, v.2.2.2.2.2.1, v.2.2.2.2.2.2.1, v.2.2.2.2.2.2.2.1, v.2.2.2.2.2.2.2.2)) hx hb hml hown hts hK hN hA hP hD hS (t_Pg_shelve l G (sh a 1) l1 v.1 q_50 hc_50) m_Pg_shelve k_431 ⟨Nat.le_of_ble_eq_true rfl, Nat.le_of_ble_eq_true rfl⟩ (pm_8 (O_St G a (v.1, q_42, v.2.2.1, v.2.2.2.1, v.2.2.2.2.1, v.2.2.2.2.2.1, v.2.2.2.2.2.2.1, v.2.2.2.2.2.2.2.1, v.2.2.2.2.2.2.2.2)) (W_Pg G (sh a 1) v.1) (W_Dy G (sh a 6) q_42) (W_Wk G (sh a 14) v.2.2.1)) (pm_8 (O_St G a (q_50, q_42, v.2.2.1, v.2.2.2.1, v.2.2.2.2.1, v.2.2.2.2.2.1, v.2.2.2.2.2.2.1, v.2.2.2.2.2.2.2.1, v.2.2.2.2.2.2.2.2)) (W_Pg G (sh a 1) q_50) (W_Dy G (sh a 6) q_42) (W_Wk G (sh a 14) v.2.2.1)).symm 4 0 rfl rfl rfl rfl rfl (Nat.le_of_ble_eq_true rfl) hl.1 d_St_shelvePage_50 ⟨Nat.zero_le _, Nat.zero_le _⟩ (fun H locs hP hD hS => ?_)
        refine lv_aload_n hx hb d_St_shelvePage_53 rfl (lv_at hl 0 rfl) ?_
        refine va_get (D := G.1) (ci := 6) (v := .ref (a 6)) (C := R_St) (T := T_St) (N := 9) hx hb hts in_St hown hK hP 0 rfl rfl 1 (by decide) (hts _ k_116) (fun _ h9 => h9) rfl d_St_shelvePage_54 ?_
        refine va_getN (D := G.1) (ci := 0) (v := .int q_42.2.2.2.2.2.2.2.2) (C := R_Dy) (T := T_Dy) (N := 9) (host := "FloodDiary") hx hb hts in_Dy hown hK hP 6 rfl rfl 8 (by decide) (va_Nw.use rfl (hN.1 _ nsF_3)) (fun _ h9 => h9) rfl d_St_shelvePage_57 ?_
        cases hf
        exact kI hx hb hr hlk hP hD hS d_St_shelvePage_60
      · replace hf := ob_et c_24 hf
        refine lv_bipush (v := (-5 : Int32)) hx hb d_St_shelvePage_27 (by decide) ?_
        cases hf
        exact kI hx hb hr hlk hP hD hS d_St_shelvePage_29
  · replace hf := ob_et c_4 hf
    refine lv_iconst (v := (-1 : Int32)) hx hb d_St_shelvePage_7 (by decide) ?_
    cases hf
    exact kI hx hb hr hlk hP hD hS d_St_shelvePage_8
set_option maxHeartbeats 4000000 in
set_option maxRecDepth 100000 in
theorem t_St_takeFlood (l : Launch) (G : GG) (a : Nat → Nat) (v : V_St) (q : Int32 × V_St) (hf : f_St_takeFlood v = some q) : MI l G y_St_takeFlood c_St_takeFlood 2 (some .int) (rmk 4 90) (W_St G a v) [.ref (a 0)] (W_St G a q.2) (q.1) := by
  refine ofI "FloodDiary$State" (by decide +kernel) rfl (Nat.le_of_ble_eq_true rfl) (fun p e s m args below meth c A ls hx hb hr hml hown hts hlk hK hN hA hP hD hS hl => ?_)
  have hl : lv_has ls 2 [(0, .ref (a 0))] := hl
  unfold f_St_takeFlood at hf
  refine lv_aload_n hx hb d_St_takeFlood_0 rfl (lv_at hl 0 rfl) ?_
  refine va_get (D := G.1) (ci := 6) (v := .ref (a 6)) (C := R_St) (T := T_St) (N := 9) hx hb hts in_St hown hK hP 0 rfl rfl 1 (by decide) (hts _ k_116) (fun _ h9 => h9) rfl d_St_takeFlood_1 ?_
  refine va_getN (D := G.1) (ci := 0) (v := .int v.2.1.2.2.2.2.2.2.2.1) (C := R_Dy) (T := T_Dy) (N := 9) (host := "FloodDiary") hx hb hts in_Dy hown hK hP 6 rfl rfl 7 (by decide) (va_Nw.use rfl (hN.1 _ nsF_0)) (fun _ h9 => h9) rfl d_St_takeFlood_4 ?_
  refine lv_aload_n hx hb d_St_takeFlood_7 rfl (lv_at hl 0 rfl) ?_
  refine va_get (D := G.1) (ci := 6) (v := .ref (a 6)) (C := R_St) (T := T_St) (N := 9) hx hb hts in_St hown hK hP 0 rfl rfl 1 (by decide) (hts _ k_116) (fun _ h9 => h9) rfl d_St_takeFlood_8 ?_
  refine va_getN (D := G.1) (ci := 0) (v := .int v.2.1.2.2.2.2.2.2.2.2) (C := R_Dy) (T := T_Dy) (N := 9) (host := "FloodDiary") hx hb hts in_Dy hown hK hP 6 rfl rfl 8 (by decide) (va_Nw.use rfl (hN.1 _ nsF_3)) (fun _ h9 => h9) rfl d_St_takeFlood_11 ?_
  refine lv_isub hx hb d_St_takeFlood_14 ?_
  refine lv_istore_n (lv' := [(1, .int (v.2.1.2.2.2.2.2.2.2.1 - v.2.1.2.2.2.2.2.2.2.2)), (0, .ref (a 0))]) hx hb d_St_takeFlood_15 rfl hl (by decide) rfl (fun ls hl => ?_)
  refine lv_aload_n hx hb d_St_takeFlood_16 rfl (lv_at hl 1 rfl) ?_
  refine lv_dup hx hb d_St_takeFlood_17 rfl ?_
  refine va_get (D := G.1) (ci := 6) (v := .int v.2.2.2.2.2.2.1) (C := R_St) (T := T_St) (N := 9) hx hb hts in_St hown hK hP 0 rfl rfl 6 (by decide) (hts _ k_124) (fun _ h9 => h9) rfl d_St_takeFlood_18 ?_
  refine lv_iconst (v := (1 : Int32)) hx hb d_St_takeFlood_21 (by decide) ?_
  refine lv_iadd hx hb d_St_takeFlood_22 ?_
  refine va_put (D := G.1) (ci := 6) (v := .int (v.2.2.2.2.2.2.1 + (1 : Int32))) (ty := .int) (C := R_St) (T := T_St) (N := 9) hx hb hts in_St ty_St ty_St_ok nm_St hown hK hP hD hS 0 rfl rfl 6 (by decide) (hts _ k_124) (fun _ h9 => h9) rfl (ty_St_ok 6 (by decide)) rfl rfl (Nat.le_of_ble_eq_true rfl) d_St_takeFlood_23 (fun H locs hP hD hS => ?_)
  have hP : va_P G.1 vwCl (W_St G a (v.1, v.2.1, v.2.2.1, v.2.2.2.1, v.2.2.2.2.1, v.2.2.2.2.2.1, (v.2.2.2.2.2.2.1 + (1 : Int32)), v.2.2.2.2.2.2.2.1, v.2.2.2.2.2.2.2.2)) H := hP
  have hD : va_D A (W_St G a (v.1, v.2.1, v.2.2.1, v.2.2.2.1, v.2.2.2.2.1, v.2.2.2.2.2.1, (v.2.2.2.2.2.2.1 + (1 : Int32)), v.2.2.2.2.2.2.2.1, v.2.2.2.2.2.2.2.2)) := hD
  refine lv_aload_n hx hb d_St_takeFlood_26 rfl (lv_at hl 1 rfl) ?_
  refine va_get (D := G.1) (ci := 6) (v := .ref (a 1)) (C := R_St) (T := T_St) (N := 9) hx hb hts in_St hown hK hP 0 rfl rfl 0 (by decide) (hts _ k_114) (fun _ h9 => h9) rfl d_St_takeFlood_27 ?_
  obtain ⟨q_30, hc_30, hf⟩ := oc_e hf
  refine kcVv (cc := c_St_takeFlood) (own := "FloodDiary$State") (index := 122) (wc := W_Pg G (sh a 1) v.1) (wr := O_St G a (v.1, v.2.1, v.2.2.1, v.2.2.2.1, v.2.2.2.2.1, v.2.2.2.2.2.1, (v.2.2.2.2.2.2.1 + (1 : Int32)), v.2.2.2.2.2.2.2.1, v.2.2.2.2.2.2.2.2) ++ (W_Dy G (sh a 6) v.2.1 ++ (W_Wk G (sh a 14) v.2.2.1 ++ (([] : va_W))))) (wc' := W_Pg G (sh a 1) q_30) (ws' := W_St G a (q_30, v.2.1, v.2.2.1, v.2.2.2.1, v.2.2.2.2.1, v.2.2.2.2.2.1, (v.2.2.2.2.2.2.1 + (1 : Int32)), v.2.2.2.2.2.2.2.1, v.2.2.2.2.2.2.2.2)) hx hb hml hown hts hK hN hA hP hD hS (t_Pg_leaveHand l G (sh a 1) v.1 q_30 hc_30) m_Pg_leaveHand k_443 ⟨Nat.le_of_ble_eq_true rfl, Nat.le_of_ble_eq_true rfl⟩ (pm_8 (O_St G a (v.1, v.2.1, v.2.2.1, v.2.2.2.1, v.2.2.2.2.1, v.2.2.2.2.2.1, (v.2.2.2.2.2.2.1 + (1 : Int32)), v.2.2.2.2.2.2.2.1, v.2.2.2.2.2.2.2.2)) (W_Pg G (sh a 1) v.1) (W_Dy G (sh a 6) v.2.1) (W_Wk G (sh a 14) v.2.2.1)) (pm_8 (O_St G a (q_30, v.2.1, v.2.2.1, v.2.2.2.1, v.2.2.2.2.1, v.2.2.2.2.2.1, (v.2.2.2.2.2.2.1 + (1 : Int32)), v.2.2.2.2.2.2.2.1, v.2.2.2.2.2.2.2.2)) (W_Pg G (sh a 1) q_30) (W_Dy G (sh a 6) v.2.1) (W_Wk G (sh a 14) v.2.2.1)).symm 4 0 rfl rfl rfl rfl rfl (Nat.le_of_ble_eq_true rfl) hl.1 d_St_takeFlood_30 ⟨Nat.zero_le _, Nat.zero_le _⟩ (fun H locs hP hD hS => ?_)
  refine lv_aload_n hx hb d_St_takeFlood_33 rfl (lv_at hl 1 rfl) ?_
  refine lv_iconst (v := (1 : Int32)) hx hb d_St_takeFlood_34 (by decide) ?_
  refine va_put (D := G.1) (ci := 6) (v := .int (1 : Int32)) (ty := .boolean) (C := R_St) (T := T_St) (N := 9) hx hb hts in_St ty_St ty_St_ok nm_St hown hK hP hD hS 0 rfl rfl 3 (by decide) (hts _ k_120) (fun _ h9 => h9) rfl (ty_St_ok 3 (by decide)) rfl rfl (Nat.le_of_ble_eq_true rfl) d_St_takeFlood_35 (fun H locs hP hD hS => ?_)
  have hP : va_P G.1 vwCl (W_St G a (q_30, v.2.1, v.2.2.1, (1 : Int32), v.2.2.2.2.1, v.2.2.2.2.2.1, (v.2.2.2.2.2.2.1 + (1 : Int32)), v.2.2.2.2.2.2.2.1, v.2.2.2.2.2.2.2.2)) H := hP
  have hD : va_D A (W_St G a (q_30, v.2.1, v.2.2.1, (1 : Int32), v.2.2.2.2.1, v.2.2.2.2.2.1, (v.2.2.2.2.2.2.1 + (1 : Int32)), v.2.2.2.2.2.2.2.1, v.2.2.2.2.2.2.2.2)) := hD
  refine lv_aload_n hx hb d_St_takeFlood_38 rfl (lv_at hl 1 rfl) ?_
  refine lv_iconst (v := (0 : Int32)) hx hb d_St_takeFlood_39 (by decide) ?_
  refine va_put (D := G.1) (ci := 6) (v := .int (0 : Int32)) (ty := .boolean) (C := R_St) (T := T_St) (N := 9) hx hb hts in_St ty_St ty_St_ok nm_St hown hK hP hD hS 0 rfl rfl 4 (by decide) (hts _ k_122) (fun _ h9 => h9) rfl (ty_St_ok 4 (by decide)) rfl rfl (Nat.le_of_ble_eq_true rfl) d_St_takeFlood_40 (fun H locs hP hD hS => ?_)
  have hP : va_P G.1 vwCl (W_St G a (q_30, v.2.1, v.2.2.1, (1 : Int32), (0 : Int32), v.2.2.2.2.2.1, (v.2.2.2.2.2.2.1 + (1 : Int32)), v.2.2.2.2.2.2.2.1, v.2.2.2.2.2.2.2.2)) H := hP
  have hD : va_D A (W_St G a (q_30, v.2.1, v.2.2.1, (1 : Int32), (0 : Int32), v.2.2.2.2.2.1, (v.2.2.2.2.2.2.1 + (1 : Int32)), v.2.2.2.2.2.2.2.1, v.2.2.2.2.2.2.2.2)) := hD
  refine lv_aload_n hx hb d_St_takeFlood_43 rfl (lv_at hl 1 rfl) ?_
  refine lv_iconst (v := (1 : Int32)) hx hb d_St_takeFlood_44 (by decide) ?_
  refine va_put (D := G.1) (ci := 6) (v := .int (1 : Int32)) (ty := .int) (C := R_St) (T := T_St) (N := 9) hx hb hts in_St ty_St ty_St_ok nm_St hown hK hP hD hS 0 rfl rfl 5 (by decide) (hts _ k_123) (fun _ h9 => h9) rfl (ty_St_ok 5 (by decide)) rfl rfl (Nat.le_of_ble_eq_true rfl) d_St_takeFlood_45 (fun H locs hP hD hS => ?_)
  have hP : va_P G.1 vwCl (W_St G a (q_30, v.2.1, v.2.2.1, (1 : Int32), (0 : Int32), (1 : Int32), (v.2.2.2.2.2.2.1 + (1 : Int32)), v.2.2.2.2.2.2.2.1, v.2.2.2.2.2.2.2.2)) H := hP
  have hD : va_D A (W_St G a (q_30, v.2.1, v.2.2.1, (1 : Int32), (0 : Int32), (1 : Int32), (v.2.2.2.2.2.2.1 + (1 : Int32)), v.2.2.2.2.2.2.2.1, v.2.2.2.2.2.2.2.2)) := hD
  refine lv_aload_n hx hb d_St_takeFlood_48 rfl (lv_at hl 1 rfl) ?_
  refine lv_iload_n hx hb d_St_takeFlood_49 rfl (lv_at hl 0 rfl) ?_
  obtain ⟨q_50, hc_50, hf⟩ := oc_e hf
  refine kcVv (cc := c_St_takeFlood) (own := "FloodDiary$State") (index := 125) (wc := W_St G a (q_30, v.2.1, v.2.2.1, (1 : Int32), (0 : Int32), (1 : Int32), (v.2.2.2.2.2.2.1 + (1 : Int32)), v.2.2.2.2.2.2.2.1, v.2.2.2.2.2.2.2.2)) (wr := ([] : va_W)) (wc' := W_St G a q_50) (ws' := W_St G a q_50) hx hb hml hown hts hK hN hA hP hD hS (t_St_loseEntries l G a (v.2.1.2.2.2.2.2.2.2.1 - v.2.1.2.2.2.2.2.2.2.2) (q_30, v.2.1, v.2.2.1, (1 : Int32), (0 : Int32), (1 : Int32), (v.2.2.2.2.2.2.1 + (1 : Int32)), v.2.2.2.2.2.2.2.1, v.2.2.2.2.2.2.2.2) q_50 hc_50) m_St_loseEntries k_447 ⟨Nat.le_of_ble_eq_true rfl, Nat.le_of_ble_eq_true rfl⟩ (pm_0 (W_St G a (q_30, v.2.1, v.2.2.1, (1 : Int32), (0 : Int32), (1 : Int32), (v.2.2.2.2.2.2.1 + (1 : Int32)), v.2.2.2.2.2.2.2.1, v.2.2.2.2.2.2.2.2))) (pm_0 (W_St G a q_50)).symm 6 0 rfl rfl rfl rfl rfl (Nat.le_of_ble_eq_true rfl) hl.1 d_St_takeFlood_50 ⟨Nat.zero_le _, Nat.zero_le _⟩ (fun H locs hP hD hS => ?_)
  refine lv_iload_n hx hb d_St_takeFlood_53 rfl (lv_at hl 0 rfl) ?_
  cases hf
  exact kI hx hb hr hlk hP hD hS d_St_takeFlood_54
set_option maxHeartbeats 4000000 in
set_option maxRecDepth 100000 in
theorem t_St_blurEntries (l : Launch) (G : GG) (a : Nat → Nat) (l1 : Int32) (v : V_St) (q : Int32 × V_St) (hf : f_St_blurEntries l1 v = some q) : MI l G y_St_blurEntries c_St_blurEntries 3 (some .int) (rmk 4 90) (W_St G a v) [.ref (a 0), .int l1] (W_St G a q.2) (q.1) := by
  refine ofI "FloodDiary$State" (by decide +kernel) rfl (Nat.le_of_ble_eq_true rfl) (fun p e s m args below meth c A ls hx hb hr hml hown hts hlk hK hN hA hP hD hS hl => ?_)
  have hl : lv_has ls 3 [(0, .ref (a 0)), (1, .int l1)] := hl
  unfold f_St_blurEntries at hf
  refine lv_iload_n hx hb d_St_blurEntries_0 rfl (lv_at hl 1 rfl) ?_
  refine lv_iconst (v := (1 : Int32)) hx hb d_St_blurEntries_1 (by decide) ?_
  refine lv_icmp_lt (tgt := 10) hx hb d_St_blurEntries_2 (by decide) (fun c_2 => ?_) (fun c_2 => ?_)
  · replace hf := ob_et c_2 hf
    refine lv_bipush (v := (-2 : Int32)) hx hb d_St_blurEntries_10 (by decide) ?_
    cases hf
    exact kI hx hb hr hlk hP hD hS d_St_blurEntries_12
  · replace hf := ob_ef c_2 hf
    refine lv_iload_n hx hb d_St_blurEntries_5 rfl (lv_at hl 1 rfl) ?_
    refine lv_iconst (v := (5 : Int32)) hx hb d_St_blurEntries_6 (by decide) ?_
    refine lv_icmp_le (tgt := 13) hx hb d_St_blurEntries_7 (by decide) (fun c_7 => ?_) (fun c_7 => ?_)
    · replace hf := ob_et c_7 hf
      refine lv_aload_n hx hb d_St_blurEntries_13 rfl (lv_at hl 0 rfl) ?_
      refine va_get (D := G.1) (ci := 6) (v := .int v.2.2.2.1) (C := R_St) (T := T_St) (N := 9) hx hb hts in_St hown hK hP 0 rfl rfl 3 (by decide) (hts _ k_120) (fun _ h9 => h9) rfl d_St_blurEntries_14 ?_
      refine lv_if_eq (tgt := 27) hx hb d_St_blurEntries_17 (by decide) (fun c_17 => ?_) (fun c_17 => ?_)
      · replace hf := ob_et c_17 hf
        refine lv_bipush (v := (-5 : Int32)) hx hb d_St_blurEntries_27 (by decide) ?_
        cases hf
        exact kI hx hb hr hlk hP hD hS d_St_blurEntries_29
      · replace hf := ob_ef c_17 hf
        refine lv_aload_n hx hb d_St_blurEntries_20 rfl (lv_at hl 0 rfl) ?_
        refine va_get (D := G.1) (ci := 6) (v := .int v.2.2.2.2.1) (C := R_St) (T := T_St) (N := 9) hx hb hts in_St hown hK hP 0 rfl rfl 4 (by decide) (hts _ k_122) (fun _ h9 => h9) rfl d_St_blurEntries_21 ?_
        refine lv_if_eq (tgt := 30) hx hb d_St_blurEntries_24 (by decide) (fun c_24 => ?_) (fun c_24 => ?_)
        · replace hf := ob_et c_24 hf
          refine lv_aload_n hx hb d_St_blurEntries_30 rfl (lv_at hl 0 rfl) ?_
          refine va_get (D := G.1) (ci := 6) (v := .ref (a 6)) (C := R_St) (T := T_St) (N := 9) hx hb hts in_St hown hK hP 0 rfl rfl 1 (by decide) (hts _ k_116) (fun _ h9 => h9) rfl d_St_blurEntries_31 ?_
          refine va_getN (D := G.1) (ci := 0) (v := .int v.2.1.2.2.2.2.2.2.2.1) (C := R_Dy) (T := T_Dy) (N := 9) (host := "FloodDiary") hx hb hts in_Dy hown hK hP 6 rfl rfl 7 (by decide) (va_Nw.use rfl (hN.1 _ nsF_0)) (fun _ h9 => h9) rfl d_St_blurEntries_34 ?_
          refine lv_iload_n hx hb d_St_blurEntries_37 rfl (lv_at hl 1 rfl) ?_
          refine lv_isub hx hb d_St_blurEntries_38 ?_
          refine lv_istore_n (lv' := [(2, .int (v.2.1.2.2.2.2.2.2.2.1 - l1)), (0, .ref (a 0)), (1, .int l1)]) hx hb d_St_blurEntries_39 rfl hl (by decide) rfl (fun ls hl => ?_)
          refine lv_iload_n hx hb d_St_blurEntries_40 rfl (lv_at hl 0 rfl) ?_
          refine lv_if_lt (tgt := 55) hx hb d_St_blurEntries_41 (by decide) (fun c_41 => ?_) (fun c_41 => ?_)
          · replace hf := ob_et c_41 hf
            refine lv_bipush (v := (-5 : Int32)) hx hb d_St_blurEntries_55 (by decide) ?_
            cases hf
            exact kI hx hb hr hlk hP hD hS d_St_blurEntries_57
          · replace hf := ob_ef c_41 hf
            refine lv_aload_n hx hb d_St_blurEntries_44 rfl (lv_at hl 1 rfl) ?_
            refine va_get (D := G.1) (ci := 6) (v := .ref (a 1)) (C := R_St) (T := T_St) (N := 9) hx hb hts in_St hown hK hP 0 rfl rfl 0 (by decide) (hts _ k_114) (fun _ h9 => h9) rfl d_St_blurEntries_45 ?_
            obtain ⟨q_48, hc_48, hf⟩ := oc_e hf
            refine kcV (cc := c_St_blurEntries) (own := "FloodDiary$State") (index := 128) (wc := W_Pg G (sh a 1) v.1) (wr := O_St G a v ++ (W_Dy G (sh a 6) v.2.1 ++ (W_Wk G (sh a 14) v.2.2.1 ++ (([] : va_W))))) (wc' := W_Pg G (sh a 1) v.1) (ws' := W_St G a v) hx hb hml hown hts hK hN hA hP hD hS (t_Pg_highestShelfMark l G (sh a 1) v.1 q_48 hc_48) m_Pg_highestShelfMark k_481 ⟨Nat.le_of_ble_eq_true rfl, Nat.le_of_ble_eq_true rfl⟩ (pm_8 (O_St G a v) (W_Pg G (sh a 1) v.1) (W_Dy G (sh a 6) v.2.1) (W_Wk G (sh a 14) v.2.2.1)) (pm_8 (O_St G a v) (W_Pg G (sh a 1) v.1) (W_Dy G (sh a 6) v.2.1) (W_Wk G (sh a 14) v.2.2.1)).symm 4 0 rfl rfl rfl rfl rfl (Nat.le_of_ble_eq_true rfl) hl.1 d_St_blurEntries_48 ⟨Nat.zero_le _, Nat.zero_le _⟩ (fun H locs hP hD hS => ?_)
            refine lv_iload_n hx hb d_St_blurEntries_51 rfl (lv_at hl 0 rfl) ?_
            refine lv_icmp_le (tgt := 58) hx hb d_St_blurEntries_52 (by decide) (fun c_52 => ?_) (fun c_52 => ?_)
            · replace hf := ob_et c_52 hf
              refine lv_aload_n hx hb d_St_blurEntries_58 rfl (lv_at hl 1 rfl) ?_
              refine lv_iload_n hx hb d_St_blurEntries_59 rfl (lv_at hl 2 rfl) ?_
              obtain ⟨q_60, hc_60, hf⟩ := oc_e hf
              refine kcVv (cc := c_St_blurEntries) (own := "FloodDiary$State") (index := 125) (wc := W_St G a v) (wr := ([] : va_W)) (wc' := W_St G a q_60) (ws' := W_St G a q_60) hx hb hml hown hts hK hN hA hP hD hS (t_St_loseEntries l G a l1 v q_60 hc_60) m_St_loseEntries k_447 ⟨Nat.le_of_ble_eq_true rfl, Nat.le_of_ble_eq_true rfl⟩ (pm_0 (W_St G a v)) (pm_0 (W_St G a q_60)).symm 6 0 rfl rfl rfl rfl rfl (Nat.le_of_ble_eq_true rfl) hl.1 d_St_blurEntries_60 ⟨Nat.zero_le _, Nat.zero_le _⟩ (fun H locs hP hD hS => ?_)
              refine lv_iload_n hx hb d_St_blurEntries_63 rfl (lv_at hl 0 rfl) ?_
              cases hf
              exact kI hx hb hr hlk hP hD hS d_St_blurEntries_64
            · replace hf := ob_ef c_52 hf
              refine lv_bipush (v := (-5 : Int32)) hx hb d_St_blurEntries_55 (by decide) ?_
              cases hf
              exact kI hx hb hr hlk hP hD hS d_St_blurEntries_57
        · replace hf := ob_ef c_24 hf
          refine lv_bipush (v := (-5 : Int32)) hx hb d_St_blurEntries_27 (by decide) ?_
          cases hf
          exact kI hx hb hr hlk hP hD hS d_St_blurEntries_29
    · replace hf := ob_ef c_7 hf
      refine lv_bipush (v := (-2 : Int32)) hx hb d_St_blurEntries_10 (by decide) ?_
      cases hf
      exact kI hx hb hr hlk hP hD hS d_St_blurEntries_12
set_option maxHeartbeats 4000000 in
set_option maxRecDepth 100000 in
theorem t_St_mendSteps (l : Launch) (G : GG) (a : Nat → Nat) (l1 : Int32) (v : V_St) (q : Int32 × V_St) (hf : f_St_mendSteps l1 v = some q) : MI l G y_St_mendSteps c_St_mendSteps 3 (some .int) (rmk 4 96) (W_St G a v) [.ref (a 0), .int l1] (W_St G a q.2) (q.1) := by
  refine ofI "FloodDiary$State" (by decide +kernel) rfl (Nat.le_of_ble_eq_true rfl) (fun p e s m args below meth c A ls hx hb hr hml hown hts hlk hK hN hA hP hD hS hl => ?_)
  have hl : lv_has ls 3 [(0, .ref (a 0)), (1, .int l1)] := hl
  have J_89 : ∀ (l2 : Int32) (v : V_St) (H : Heap) (locs : List Loc) (ls : Array Slot), va_P G.1 vwCl (W_St G a v) H → va_D A (W_St G a v) → va_S A s.heap H locs → lv_has ls 3 [(0, .ref (a 0)), (2, .int l2)] → f_St_mendSteps_89 l2 v = some q → W p l e (rmk 4 96) s m args below meth c H locs 0 0 (MQ below (qI G A (W_St G a q.2) (q.1)) args s 0 0 A) (F0 m 89 ls []) := by
    intro l2 v H locs ls hP hD hS hl hf
    unfold f_St_mendSteps_89 at hf
    refine lv_aload_n hx hb d_St_mendSteps_89 rfl (lv_at hl 0 rfl) ?_
    refine lv_dup hx hb d_St_mendSteps_90 rfl ?_
    refine va_get (D := G.1) (ci := 6) (v := .int v.2.2.2.2.2.2.2.1) (C := R_St) (T := T_St) (N := 9) hx hb hts in_St hown hK hP 0 rfl rfl 7 (by decide) (hts _ k_125) (fun _ h9 => h9) rfl d_St_mendSteps_91 ?_
    refine lv_iload_n hx hb d_St_mendSteps_94 rfl (lv_at hl 1 rfl) ?_
    refine lv_iadd hx hb d_St_mendSteps_95 ?_
    refine va_put (D := G.1) (ci := 6) (v := .int (v.2.2.2.2.2.2.2.1 + l2)) (ty := .int) (C := R_St) (T := T_St) (N := 9) hx hb hts in_St ty_St ty_St_ok nm_St hown hK hP hD hS 0 rfl rfl 7 (by decide) (hts _ k_125) (fun _ h9 => h9) rfl (ty_St_ok 7 (by decide)) rfl rfl (Nat.le_of_ble_eq_true rfl) d_St_mendSteps_96 (fun H locs hP hD hS => ?_)
    have hP : va_P G.1 vwCl (W_St G a (v.1, v.2.1, v.2.2.1, v.2.2.2.1, v.2.2.2.2.1, v.2.2.2.2.2.1, v.2.2.2.2.2.2.1, (v.2.2.2.2.2.2.2.1 + l2), v.2.2.2.2.2.2.2.2)) H := hP
    have hD : va_D A (W_St G a (v.1, v.2.1, v.2.2.1, v.2.2.2.1, v.2.2.2.2.1, v.2.2.2.2.2.1, v.2.2.2.2.2.2.1, (v.2.2.2.2.2.2.2.1 + l2), v.2.2.2.2.2.2.2.2)) := hD
    refine lv_aload_n hx hb d_St_mendSteps_99 rfl (lv_at hl 0 rfl) ?_
    obtain ⟨q_100, hc_100, hf⟩ := oc_e hf
    refine kcV (cc := c_St_mendSteps) (own := "FloodDiary$State") (index := 132) (wc := W_St G a (v.1, v.2.1, v.2.2.1, v.2.2.2.1, v.2.2.2.2.1, v.2.2.2.2.2.1, v.2.2.2.2.2.2.1, (v.2.2.2.2.2.2.2.1 + l2), v.2.2.2.2.2.2.2.2)) (wr := ([] : va_W)) (wc' := W_St G a q_100.2) (ws' := W_St G a q_100.2) hx hb hml hown hts hK hN hA hP hD hS (t_St_isAnythingLeft l G a (v.1, v.2.1, v.2.2.1, v.2.2.2.1, v.2.2.2.2.1, v.2.2.2.2.2.1, v.2.2.2.2.2.2.1, (v.2.2.2.2.2.2.2.1 + l2), v.2.2.2.2.2.2.2.2) q_100 hc_100) m_St_isAnythingLeft k_494 ⟨Nat.le_of_ble_eq_true rfl, Nat.le_of_ble_eq_true rfl⟩ (pm_0 (W_St G a (v.1, v.2.1, v.2.2.1, v.2.2.2.1, v.2.2.2.2.1, v.2.2.2.2.2.1, v.2.2.2.2.2.2.1, (v.2.2.2.2.2.2.2.1 + l2), v.2.2.2.2.2.2.2.2))) (pm_0 (W_St G a q_100.2)).symm 6 0 rfl rfl rfl rfl rfl (Nat.le_of_ble_eq_true rfl) hl.1 d_St_mendSteps_100 ⟨Nat.zero_le _, Nat.zero_le _⟩ (fun H locs hP hD hS => ?_)
    refine lv_if_ne (tgt := 125) hx hb d_St_mendSteps_103 (by decide) (fun c_103 => ?_) (fun c_103 => ?_)
    · replace hf := ob_ef c_103 hf
      refine lv_iload_n hx hb d_St_mendSteps_125 rfl (lv_at hl 1 rfl) ?_
      cases hf
      exact kI hx hb hr hlk hP hD hS d_St_mendSteps_126
    · replace hf := ob_et c_103 hf
      refine lv_aload_n hx hb d_St_mendSteps_106 rfl (lv_at hl 0 rfl) ?_
      refine lv_iconst (v := (0 : Int32)) hx hb d_St_mendSteps_107 (by decide) ?_
      refine va_put (D := G.1) (ci := 6) (v := .int (0 : Int32)) (ty := .boolean) (C := R_St) (T := T_St) (N := 9) hx hb hts in_St ty_St ty_St_ok nm_St hown hK hP hD hS 0 rfl rfl 3 (by decide) (hts _ k_120) (fun _ h9 => h9) rfl (ty_St_ok 3 (by decide)) rfl rfl (Nat.le_of_ble_eq_true rfl) d_St_mendSteps_108 (fun H locs hP hD hS => ?_)
      have hP : va_P G.1 vwCl (W_St G a (q_100.2.1, q_100.2.2.1, q_100.2.2.2.1, (0 : Int32), q_100.2.2.2.2.2.1, q_100.2.2.2.2.2.2.1, q_100.2.2.2.2.2.2.2.1, q_100.2.2.2.2.2.2.2.2.1, q_100.2.2.2.2.2.2.2.2.2)) H := hP
      have hD : va_D A (W_St G a (q_100.2.1, q_100.2.2.1, q_100.2.2.2.1, (0 : Int32), q_100.2.2.2.2.2.1, q_100.2.2.2.2.2.2.1, q_100.2.2.2.2.2.2.2.1, q_100.2.2.2.2.2.2.2.2.1, q_100.2.2.2.2.2.2.2.2.2)) := hD
      refine lv_aload_n hx hb d_St_mendSteps_111 rfl (lv_at hl 0 rfl) ?_
      refine va_get (D := G.1) (ci := 6) (v := .ref (a 6)) (C := R_St) (T := T_St) (N := 9) hx hb hts in_St hown hK hP 0 rfl rfl 1 (by decide) (hts _ k_116) (fun _ h9 => h9) rfl d_St_mendSteps_112 ?_
      refine lv_aload_n hx hb d_St_mendSteps_115 rfl (lv_at hl 0 rfl) ?_
      refine va_get (D := G.1) (ci := 6) (v := .ref (a 6)) (C := R_St) (T := T_St) (N := 9) hx hb hts in_St hown hK hP 0 rfl rfl 1 (by decide) (hts _ k_116) (fun _ h9 => h9) rfl d_St_mendSteps_116 ?_
      refine va_getN (D := G.1) (ci := 0) (v := .int q_100.2.2.1.2.2.2.2.2.2.2.1) (C := R_Dy) (T := T_Dy) (N := 9) (host := "FloodDiary") hx hb hts in_Dy hown hK hP 6 rfl rfl 7 (by decide) (va_Nw.use rfl (hN.1 _ nsF_0)) (fun _ h9 => h9) rfl d_St_mendSteps_119 ?_
      obtain ⟨q_122, hc_122, hf⟩ := oc_e hf
      refine kcVv (cc := c_St_mendSteps) (own := "FloodDiary$State") (index := 99) (wc := W_Dy G (sh a 6) q_100.2.2.1) (wr := O_St G a (q_100.2.1, q_100.2.2.1, q_100.2.2.2.1, (0 : Int32), q_100.2.2.2.2.2.1, q_100.2.2.2.2.2.2.1, q_100.2.2.2.2.2.2.2.1, q_100.2.2.2.2.2.2.2.2.1, q_100.2.2.2.2.2.2.2.2.2) ++ (W_Pg G (sh a 1) q_100.2.1 ++ (W_Wk G (sh a 14) q_100.2.2.2.1 ++ (([] : va_W))))) (wc' := W_Dy G (sh a 6) q_122) (ws' := W_St G a (q_100.2.1, q_122, q_100.2.2.2.1, (0 : Int32), q_100.2.2.2.2.2.1, q_100.2.2.2.2.2.2.1, q_100.2.2.2.2.2.2.2.1, q_100.2.2.2.2.2.2.2.2.1, q_100.2.2.2.2.2.2.2.2.2)) hx hb hml hown hts hK hN hA hP hD hS (t_Dy_saveUpTo l G (sh a 6) q_100.2.2.1.2.2.2.2.2.2.2.1 q_100.2.2.1 q_122 hc_122) m_Dy_saveUpTo k_366 ⟨Nat.le_of_ble_eq_true rfl, Nat.le_of_ble_eq_true rfl⟩ (pm_7 (O_St G a (q_100.2.1, q_100.2.2.1, q_100.2.2.2.1, (0 : Int32), q_100.2.2.2.2.2.1, q_100.2.2.2.2.2.2.1, q_100.2.2.2.2.2.2.2.1, q_100.2.2.2.2.2.2.2.2.1, q_100.2.2.2.2.2.2.2.2.2)) (W_Pg G (sh a 1) q_100.2.1) (W_Dy G (sh a 6) q_100.2.2.1) (W_Wk G (sh a 14) q_100.2.2.2.1)) (pm_7 (O_St G a (q_100.2.1, q_122, q_100.2.2.2.1, (0 : Int32), q_100.2.2.2.2.2.1, q_100.2.2.2.2.2.2.1, q_100.2.2.2.2.2.2.2.1, q_100.2.2.2.2.2.2.2.2.1, q_100.2.2.2.2.2.2.2.2.2)) (W_Pg G (sh a 1) q_100.2.1) (W_Dy G (sh a 6) q_122) (W_Wk G (sh a 14) q_100.2.2.2.1)).symm 0 0 rfl rfl rfl rfl rfl (Nat.le_of_ble_eq_true rfl) hl.1 d_St_mendSteps_122 ⟨Nat.zero_le _, Nat.zero_le _⟩ (fun H locs hP hD hS => ?_)
      refine lv_iload_n hx hb d_St_mendSteps_125 rfl (lv_at hl 1 rfl) ?_
      cases hf
      exact kI hx hb hr hlk hP hD hS d_St_mendSteps_126
  have J_32 : ∀ (n_32 : Nat) (l1 : Int32) (l2 : Int32) (v : V_St) (H : Heap) (locs : List Loc) (ls : Array Slot), va_P G.1 vwCl (W_St G a v) H → va_D A (W_St G a v) → va_S A s.heap H locs → lv_has ls 3 [(0, .ref (a 0)), (1, .int l1), (2, .int l2)] → f_St_mendSteps_32 n_32 l1 l2 v = some q → W p l e (rmk 4 96) s m args below meth c H locs 0 0 (MQ below (qI G A (W_St G a q.2) (q.1)) args s 0 0 A) (F0 m 32 ls []) := by
    intro n_32
    induction n_32 with
    | zero => intro l1 l2 v H locs ls hP hD hS hl hf; exact absurd hf (by unfold f_St_mendSteps_32; exact fun z => by cases z)
    | succ n_32 ih_32 =>
      intro l1 l2 v H locs ls hP hD hS hl hf
      rw [f_St_mendSteps_32] at hf
      refine lv_iload_n hx hb d_St_mendSteps_32 rfl (lv_at hl 2 rfl) ?_
      refine lv_iload_n hx hb d_St_mendSteps_33 rfl (lv_at hl 1 rfl) ?_
      refine lv_icmp_ge (tgt := 89) hx hb d_St_mendSteps_34 (by decide) (fun c_34 => ?_) (fun c_34 => ?_)
      · replace hf := ob_et c_34 hf
        exact J_89 l2 v _ _ ls hP hD hS (lv_sub hl [0, 2] rfl) hf
      · replace hf := ob_ef c_34 hf
        refine lv_aload_n hx hb d_St_mendSteps_37 rfl (lv_at hl 0 rfl) ?_
        obtain ⟨q_38, hc_38, hf⟩ := oc_e hf
        refine kcV (cc := c_St_mendSteps) (own := "FloodDiary$State") (index := 132) (wc := W_St G a v) (wr := ([] : va_W)) (wc' := W_St G a q_38.2) (ws' := W_St G a q_38.2) hx hb hml hown hts hK hN hA hP hD hS (t_St_isAnythingLeft l G a v q_38 hc_38) m_St_isAnythingLeft k_494 ⟨Nat.le_of_ble_eq_true rfl, Nat.le_of_ble_eq_true rfl⟩ (pm_0 (W_St G a v)) (pm_0 (W_St G a q_38.2)).symm 6 0 rfl rfl rfl rfl rfl (Nat.le_of_ble_eq_true rfl) hl.1 d_St_mendSteps_38 ⟨Nat.zero_le _, Nat.zero_le _⟩ (fun H locs hP hD hS => ?_)
        refine lv_if_eq (tgt := 89) hx hb d_St_mendSteps_41 (by decide) (fun c_41 => ?_) (fun c_41 => ?_)
        · replace hf := ob_et c_41 hf
          exact J_89 l2 q_38.2 _ _ ls hP hD hS (lv_sub hl [0, 2] rfl) hf
        · replace hf := ob_ef c_41 hf
          refine lv_aload_n hx hb d_St_mendSteps_44 rfl (lv_at hl 0 rfl) ?_
          obtain ⟨q_45, hc_45, hf⟩ := oc_e hf
          refine kcV (cc := c_St_mendSteps) (own := "FloodDiary$State") (index := 135) (wc := W_St G a q_38.2) (wr := ([] : va_W)) (wc' := W_St G a q_45.2) (ws' := W_St G a q_45.2) hx hb hml hown hts hK hN hA hP hD hS (t_St_findAgain l G a q_38.2 q_45 hc_45) m_St_findAgain k_498 ⟨Nat.le_of_ble_eq_true rfl, Nat.le_of_ble_eq_true rfl⟩ (pm_0 (W_St G a q_38.2)) (pm_0 (W_St G a q_45.2)).symm 6 0 rfl rfl rfl rfl rfl (Nat.le_of_ble_eq_true rfl) hl.1 d_St_mendSteps_45 ⟨Nat.zero_le _, Nat.zero_le _⟩ (fun H locs hP hD hS => ?_)
          refine lv_if_eq (tgt := 72) hx hb d_St_mendSteps_48 (by decide) (fun c_48 => ?_) (fun c_48 => ?_)
          · replace hf := ob_et c_48 hf
            refine lv_aload_n hx hb d_St_mendSteps_72 rfl (lv_at hl 0 rfl) ?_
            refine lv_aload_n hx hb d_St_mendSteps_73 rfl (lv_at hl 0 rfl) ?_
            refine va_get (D := G.1) (ci := 6) (v := .ref (a 14)) (C := R_St) (T := T_St) (N := 9) hx hb hts in_St hown hK hP 0 rfl rfl 2 (by decide) (hts _ k_118) (fun _ h9 => h9) rfl d_St_mendSteps_74 ?_
            obtain ⟨q_77, hc_77, hf⟩ := oc_e hf
            refine kcV (cc := c_St_mendSteps) (own := "FloodDiary$State") (index := 141) (wc := W_Wk G (sh a 14) q_45.2.2.2.1) (wr := O_St G a q_45.2 ++ (W_Pg G (sh a 1) q_45.2.1 ++ (W_Dy G (sh a 6) q_45.2.2.1 ++ (([] : va_W))))) (wc' := W_Wk G (sh a 14) q_45.2.2.2.1) (ws' := W_St G a q_45.2) hx hb hml hown hts hK hN hA hP hD hS (t_Wk_nextToTakeBack l G (sh a 14) q_45.2.2.2.1 q_77 hc_77) m_Wk_nextToTakeBack k_505 ⟨Nat.le_of_ble_eq_true rfl, Nat.le_of_ble_eq_true rfl⟩ (pm_6 (O_St G a q_45.2) (W_Pg G (sh a 1) q_45.2.1) (W_Dy G (sh a 6) q_45.2.2.1) (W_Wk G (sh a 14) q_45.2.2.2.1)) (pm_6 (O_St G a q_45.2) (W_Pg G (sh a 1) q_45.2.1) (W_Dy G (sh a 6) q_45.2.2.1) (W_Wk G (sh a 14) q_45.2.2.2.1)).symm 7 0 rfl rfl rfl rfl rfl (Nat.le_of_ble_eq_true rfl) hl.1 d_St_mendSteps_77 ⟨Nat.zero_le _, Nat.zero_le _⟩ (fun H locs hP hD hS => ?_)
            obtain ⟨q_80, hc_80, hf⟩ := oc_e hf
            refine kcVv (cc := c_St_mendSteps) (own := "FloodDiary$State") (index := 106) (wc := W_St G a q_45.2) (wr := ([] : va_W)) (wc' := W_St G a q_80) (ws' := W_St G a q_80) hx hb hml hown hts hK hN hA hP hD hS (t_St_stepBack l G a q_77 q_45.2 q_80 hc_80) m_St_stepBack k_397 ⟨Nat.le_of_ble_eq_true rfl, Nat.le_of_ble_eq_true rfl⟩ (pm_0 (W_St G a q_45.2)) (pm_0 (W_St G a q_80)).symm 6 0 rfl rfl rfl rfl rfl (Nat.le_of_ble_eq_true rfl) hl.1 d_St_mendSteps_80 ⟨Nat.zero_le _, Nat.zero_le _⟩ (fun H locs hP hD hS => ?_)
            refine lv_iinc (v := (l2 + (1 : Int32))) (lv' := [(2, .int (l2 + (1 : Int32))), (0, .ref (a 0)), (1, .int l1)]) hx hb d_St_mendSteps_83 hl (k := 2) rfl rfl (by decide) rfl (fun ls hl => ?_)
            refine lv_goto (tgt := 32) hx hb d_St_mendSteps_86 (by decide) ?_
            exact ih_32 l1 (l2 + (1 : Int32)) q_80 _ _ ls hP hD hS (lv_sub hl [1, 2, 0] rfl) hf
          · replace hf := ob_ef c_48 hf
            refine lv_aload_n hx hb d_St_mendSteps_51 rfl (lv_at hl 0 rfl) ?_
            refine lv_aload_n hx hb d_St_mendSteps_52 rfl (lv_at hl 0 rfl) ?_
            refine va_get (D := G.1) (ci := 6) (v := .int q_45.2.2.2.2.2.2.1) (C := R_St) (T := T_St) (N := 9) hx hb hts in_St hown hK hP 0 rfl rfl 5 (by decide) (hts _ k_123) (fun _ h9 => h9) rfl d_St_mendSteps_53 ?_
            obtain ⟨q_56, hc_56, hf⟩ := oc_e hf
            refine kcVv (cc := c_St_mendSteps) (own := "FloodDiary$State") (index := 138) (wc := W_St G a q_45.2) (wr := ([] : va_W)) (wc' := W_St G a q_56) (ws' := W_St G a q_56) hx hb hml hown hts hK hN hA hP hD hS (t_St_doAgain l G a q_45.2.2.2.2.2.2.1 q_45.2 q_56 hc_56) m_St_doAgain k_510 ⟨Nat.le_of_ble_eq_true rfl, Nat.le_of_ble_eq_true rfl⟩ (pm_0 (W_St G a q_45.2)) (pm_0 (W_St G a q_56)).symm 6 0 rfl rfl rfl rfl rfl (Nat.le_of_ble_eq_true rfl) hl.1 d_St_mendSteps_56 ⟨Nat.zero_le _, Nat.zero_le _⟩ (fun H locs hP hD hS => ?_)
            refine lv_aload_n hx hb d_St_mendSteps_59 rfl (lv_at hl 0 rfl) ?_
            refine lv_dup hx hb d_St_mendSteps_60 rfl ?_
            refine va_get (D := G.1) (ci := 6) (v := .int q_56.2.2.2.2.2.1) (C := R_St) (T := T_St) (N := 9) hx hb hts in_St hown hK hP 0 rfl rfl 5 (by decide) (hts _ k_123) (fun _ h9 => h9) rfl d_St_mendSteps_61 ?_
            refine lv_iconst (v := (1 : Int32)) hx hb d_St_mendSteps_64 (by decide) ?_
            refine lv_iadd hx hb d_St_mendSteps_65 ?_
            refine va_put (D := G.1) (ci := 6) (v := .int (q_56.2.2.2.2.2.1 + (1 : Int32))) (ty := .int) (C := R_St) (T := T_St) (N := 9) hx hb hts in_St ty_St ty_St_ok nm_St hown hK hP hD hS 0 rfl rfl 5 (by decide) (hts _ k_123) (fun _ h9 => h9) rfl (ty_St_ok 5 (by decide)) rfl rfl (Nat.le_of_ble_eq_true rfl) d_St_mendSteps_66 (fun H locs hP hD hS => ?_)
            have hP : va_P G.1 vwCl (W_St G a (q_56.1, q_56.2.1, q_56.2.2.1, q_56.2.2.2.1, q_56.2.2.2.2.1, (q_56.2.2.2.2.2.1 + (1 : Int32)), q_56.2.2.2.2.2.2.1, q_56.2.2.2.2.2.2.2.1, q_56.2.2.2.2.2.2.2.2)) H := hP
            have hD : va_D A (W_St G a (q_56.1, q_56.2.1, q_56.2.2.1, q_56.2.2.2.1, q_56.2.2.2.2.1, (q_56.2.2.2.2.2.1 + (1 : Int32)), q_56.2.2.2.2.2.2.1, q_56.2.2.2.2.2.2.2.1, q_56.2.2.2.2.2.2.2.2)) := hD
            refine lv_goto (tgt := 83) hx hb d_St_mendSteps_69 (by decide) ?_
            refine lv_iinc (v := (l2 + (1 : Int32))) (lv' := [(2, .int (l2 + (1 : Int32))), (0, .ref (a 0)), (1, .int l1)]) hx hb d_St_mendSteps_83 hl (k := 2) rfl rfl (by decide) rfl (fun ls hl => ?_)
            refine lv_goto (tgt := 32) hx hb d_St_mendSteps_86 (by decide) ?_
            exact ih_32 l1 (l2 + (1 : Int32)) (q_56.1, q_56.2.1, q_56.2.2.1, q_56.2.2.2.1, q_56.2.2.2.2.1, (q_56.2.2.2.2.2.1 + (1 : Int32)), q_56.2.2.2.2.2.2.1, q_56.2.2.2.2.2.2.2.1, q_56.2.2.2.2.2.2.2.2) _ _ ls hP hD hS (lv_sub hl [1, 2, 0] rfl) hf
  unfold f_St_mendSteps at hf
  refine lv_iload_n hx hb d_St_mendSteps_0 rfl (lv_at hl 1 rfl) ?_
  refine lv_iconst (v := (1 : Int32)) hx hb d_St_mendSteps_1 (by decide) ?_
  refine lv_icmp_lt (tgt := 12) hx hb d_St_mendSteps_2 (by decide) (fun c_2 => ?_) (fun c_2 => ?_)
  · replace hf := ob_et c_2 hf
    refine lv_bipush (v := (-2 : Int32)) hx hb d_St_mendSteps_12 (by decide) ?_
    cases hf
    exact kI hx hb hr hlk hP hD hS d_St_mendSteps_14
  · replace hf := ob_ef c_2 hf
    refine lv_iload_n hx hb d_St_mendSteps_5 rfl (lv_at hl 1 rfl) ?_
    refine lv_sipush (v := (999 : Int32)) hx hb d_St_mendSteps_6 (by decide) ?_
    refine lv_icmp_le (tgt := 15) hx hb d_St_mendSteps_9 (by decide) (fun c_9 => ?_) (fun c_9 => ?_)
    · replace hf := ob_et c_9 hf
      refine lv_aload_n hx hb d_St_mendSteps_15 rfl (lv_at hl 0 rfl) ?_
      refine va_get (D := G.1) (ci := 6) (v := .int v.2.2.2.1) (C := R_St) (T := T_St) (N := 9) hx hb hts in_St hown hK hP 0 rfl rfl 3 (by decide) (hts _ k_120) (fun _ h9 => h9) rfl d_St_mendSteps_16 ?_
      refine lv_if_ne (tgt := 25) hx hb d_St_mendSteps_19 (by decide) (fun c_19 => ?_) (fun c_19 => ?_)
      · replace hf := ob_ef c_19 hf
        refine lv_aload_n hx hb d_St_mendSteps_25 rfl (lv_at hl 0 rfl) ?_
        refine lv_iconst (v := (1 : Int32)) hx hb d_St_mendSteps_26 (by decide) ?_
        refine va_put (D := G.1) (ci := 6) (v := .int (1 : Int32)) (ty := .boolean) (C := R_St) (T := T_St) (N := 9) hx hb hts in_St ty_St ty_St_ok nm_St hown hK hP hD hS 0 rfl rfl 4 (by decide) (hts _ k_122) (fun _ h9 => h9) rfl (ty_St_ok 4 (by decide)) rfl rfl (Nat.le_of_ble_eq_true rfl) d_St_mendSteps_27 (fun H locs hP hD hS => ?_)
        have hP : va_P G.1 vwCl (W_St G a (v.1, v.2.1, v.2.2.1, v.2.2.2.1, (1 : Int32), v.2.2.2.2.2.1, v.2.2.2.2.2.2.1, v.2.2.2.2.2.2.2.1, v.2.2.2.2.2.2.2.2)) H := hP
        have hD : va_D A (W_St G a (v.1, v.2.1, v.2.2.1, v.2.2.2.1, (1 : Int32), v.2.2.2.2.2.1, v.2.2.2.2.2.2.1, v.2.2.2.2.2.2.2.1, v.2.2.2.2.2.2.2.2)) := hD
        refine lv_iconst (v := (0 : Int32)) hx hb d_St_mendSteps_30 (by decide) ?_
        refine lv_istore_n (lv' := [(2, .int (0 : Int32)), (0, .ref (a 0)), (1, .int l1)]) hx hb d_St_mendSteps_31 rfl hl (by decide) rfl (fun ls hl => ?_)
        exact J_32 FU l1 (0 : Int32) (v.1, v.2.1, v.2.2.1, v.2.2.2.1, (1 : Int32), v.2.2.2.2.2.1, v.2.2.2.2.2.2.1, v.2.2.2.2.2.2.2.1, v.2.2.2.2.2.2.2.2) _ _ ls hP hD hS (lv_sub hl [1, 2, 0] rfl) hf
      · replace hf := ob_et c_19 hf
        refine lv_bipush (v := (-5 : Int32)) hx hb d_St_mendSteps_22 (by decide) ?_
        cases hf
        exact kI hx hb hr hlk hP hD hS d_St_mendSteps_24
    · replace hf := ob_ef c_9 hf
      refine lv_bipush (v := (-2 : Int32)) hx hb d_St_mendSteps_12 (by decide) ?_
      cases hf
      exact kI hx hb hr hlk hP hD hS d_St_mendSteps_14
set_option maxHeartbeats 4000000 in
set_option maxRecDepth 100000 in
theorem t_St_tearAllOpen (l : Launch) (G : GG) (a : Nat → Nat) (v : V_St) (q : V_St) (hf : f_St_tearAllOpen v = some q) : MV l G y_St_tearAllOpen c_St_tearAllOpen 4 (rmk 4 96) (W_St G a v) [.ref (a 0)] (W_St G a q) := by
  refine ofV "FloodDiary$State" (by decide +kernel) rfl (Nat.le_of_ble_eq_true rfl) (fun p e s m args below meth c A ls hx hb hr hml hown hts hlk hK hN hA hP hD hS hl => ?_)
  have hl : lv_has ls 4 [(0, .ref (a 0))] := hl
  have J_2 : ∀ (n_2 : Nat) (l1 : Int32) (v : V_St) (H : Heap) (locs : List Loc) (ls : Array Slot), va_P G.1 vwCl (W_St G a v) H → va_D A (W_St G a v) → va_S A s.heap H locs → lv_has ls 4 [(0, .ref (a 0)), (1, .int l1)] → f_St_tearAllOpen_2 n_2 l1 v = some q → W p l e (rmk 4 96) s m args below meth c H locs 0 0 (MQ below (qV G A (W_St G a q)) args s 0 0 A) (F0 m 2 ls []) := by
    intro n_2
    induction n_2 with
    | zero => intro l1 v H locs ls hP hD hS hl hf; exact absurd hf (by unfold f_St_tearAllOpen_2; exact fun z => by cases z)
    | succ n_2 ih_2 =>
      have J_36 : ∀ (n_36 : Nat) (l1 : Int32) (l2 : Int32) (l3 : Int32) (v : V_St) (H : Heap) (locs : List Loc) (ls : Array Slot), va_P G.1 vwCl (W_St G a v) H → va_D A (W_St G a v) → va_S A s.heap H locs → lv_has ls 4 [(0, .ref (a 0)), (1, .int l1), (2, .int l2), (3, .int l3)] → f_St_tearAllOpen_36 (f_St_tearAllOpen_2 n_2) n_36 l1 l2 l3 v = some q → W p l e (rmk 4 96) s m args below meth c H locs 0 0 (MQ below (qV G A (W_St G a q)) args s 0 0 A) (F0 m 36 ls []) := by
        intro n_36
        induction n_36 with
        | zero => intro l1 l2 l3 v H locs ls hP hD hS hl hf; exact absurd hf (by unfold f_St_tearAllOpen_36; exact fun z => by cases z)
        | succ n_36 ih_36 =>
          intro l1 l2 l3 v H locs ls hP hD hS hl hf
          rw [f_St_tearAllOpen_36] at hf
          refine lv_iload_n hx hb d_St_tearAllOpen_36 rfl (lv_at hl 3 rfl) ?_
          refine lv_iload_n hx hb d_St_tearAllOpen_37 rfl (lv_at hl 2 rfl) ?_
          refine lv_icmp_ge (tgt := 52) hx hb d_St_tearAllOpen_38 (by decide) (fun c_38 => ?_) (fun c_38 => ?_)
          · replace hf := ob_et c_38 hf
            refine lv_iinc (v := (l1 + (1 : Int32))) (lv' := [(1, .int (l1 + (1 : Int32))), (0, .ref (a 0)), (2, .int l2), (3, .int l3)]) hx hb d_St_tearAllOpen_52 hl (k := 1) rfl rfl (by decide) rfl (fun ls hl => ?_)
            refine lv_goto (tgt := 2) hx hb d_St_tearAllOpen_55 (by decide) ?_
            exact ih_2 (l1 + (1 : Int32)) v _ _ ls hP hD hS (lv_sub hl [1, 0] rfl) hf
          · replace hf := ob_ef c_38 hf
            refine lv_aload_n hx hb d_St_tearAllOpen_41 rfl (lv_at hl 0 rfl) ?_
            refine lv_iload_n hx hb d_St_tearAllOpen_42 rfl (lv_at hl 1 rfl) ?_
            obtain ⟨q_43, hc_43, hf⟩ := oc_e hf
            refine kcVv (cc := c_St_tearAllOpen) (own := "FloodDiary$State") (index := 106) (wc := W_St G a v) (wr := ([] : va_W)) (wc' := W_St G a q_43) (ws' := W_St G a q_43) hx hb hml hown hts hK hN hA hP hD hS (t_St_stepBack l G a l1 v q_43 hc_43) m_St_stepBack k_397 ⟨Nat.le_of_ble_eq_true rfl, Nat.le_of_ble_eq_true rfl⟩ (pm_0 (W_St G a v)) (pm_0 (W_St G a q_43)).symm 6 0 rfl rfl rfl rfl rfl (Nat.le_of_ble_eq_true rfl) hl.1 d_St_tearAllOpen_43 ⟨Nat.zero_le _, Nat.zero_le _⟩ (fun H locs hP hD hS => ?_)
            refine lv_iinc (v := (l3 + (1 : Int32))) (lv' := [(3, .int (l3 + (1 : Int32))), (0, .ref (a 0)), (1, .int l1), (2, .int l2)]) hx hb d_St_tearAllOpen_46 hl (k := 3) rfl rfl (by decide) rfl (fun ls hl => ?_)
            refine lv_goto (tgt := 36) hx hb d_St_tearAllOpen_49 (by decide) ?_
            exact ih_36 l1 l2 (l3 + (1 : Int32)) q_43 _ _ ls hP hD hS (lv_sub hl [1, 2, 3, 0] rfl) hf
      intro l1 v H locs ls hP hD hS hl hf
      rw [f_St_tearAllOpen_2] at hf
      refine lv_iload_n hx hb d_St_tearAllOpen_2 rfl (lv_at hl 1 rfl) ?_
      refine lv_aload_n hx hb d_St_tearAllOpen_3 rfl (lv_at hl 0 rfl) ?_
      refine va_get (D := G.1) (ci := 6) (v := .ref (a 14)) (C := R_St) (T := T_St) (N := 9) hx hb hts in_St hown hK hP 0 rfl rfl 2 (by decide) (hts _ k_118) (fun _ h9 => h9) rfl d_St_tearAllOpen_4 ?_
      refine va_getN (D := G.1) (ci := 7) (v := .int v.2.2.1.2.2.2.2.2) (C := R_Wk) (T := T_Wk) (N := 6) (host := "FloodDiary") hx hb hts in_Wk hown hK hP 14 rfl rfl 5 (by decide) (va_Nw.use rfl (hN.1 _ nsF_4)) (fun _ h9 => h9) rfl d_St_tearAllOpen_7 ?_
      refine lv_icmp_ge (tgt := 58) hx hb d_St_tearAllOpen_10 (by decide) (fun c_10 => ?_) (fun c_10 => ?_)
      · replace hf := ob_et c_10 hf
        cases hf
        exact kV hx hb hr hlk hP hD hS d_St_tearAllOpen_58
      · replace hf := ob_ef c_10 hf
        refine lv_aload_n hx hb d_St_tearAllOpen_13 rfl (lv_at hl 0 rfl) ?_
        refine va_get (D := G.1) (ci := 6) (v := .ref (a 14)) (C := R_St) (T := T_St) (N := 9) hx hb hts in_St hown hK hP 0 rfl rfl 2 (by decide) (hts _ k_118) (fun _ h9 => h9) rfl d_St_tearAllOpen_14 ?_
        refine lv_iload_n hx hb d_St_tearAllOpen_17 rfl (lv_at hl 1 rfl) ?_
        obtain ⟨q_18, hc_18, hf⟩ := oc_e hf
        refine kcV (cc := c_St_tearAllOpen) (own := "FloodDiary$State") (index := 85) (wc := W_Wk G (sh a 14) v.2.2.1) (wr := O_St G a v ++ (W_Pg G (sh a 1) v.1 ++ (W_Dy G (sh a 6) v.2.1 ++ (([] : va_W))))) (wc' := W_Wk G (sh a 14) v.2.2.1) (ws' := W_St G a v) hx hb hml hown hts hK hN hA hP hD hS (t_Wk_isOpen l G (sh a 14) l1 v.2.2.1 q_18 hc_18) m_Wk_isOpen k_327 ⟨Nat.le_of_ble_eq_true rfl, Nat.le_of_ble_eq_true rfl⟩ (pm_6 (O_St G a v) (W_Pg G (sh a 1) v.1) (W_Dy G (sh a 6) v.2.1) (W_Wk G (sh a 14) v.2.2.1)) (pm_6 (O_St G a v) (W_Pg G (sh a 1) v.1) (W_Dy G (sh a 6) v.2.1) (W_Wk G (sh a 14) v.2.2.1)).symm 7 0 rfl rfl rfl rfl rfl (Nat.le_of_ble_eq_true rfl) hl.1 d_St_tearAllOpen_18 ⟨Nat.zero_le _, Nat.zero_le _⟩ (fun H locs hP hD hS => ?_)
        refine lv_if_eq (tgt := 32) hx hb d_St_tearAllOpen_21 (by decide) (fun c_21 => ?_) (fun c_21 => ?_)
        · replace hf := ob_et c_21 hf
          refine lv_iconst (v := (0 : Int32)) hx hb d_St_tearAllOpen_32 (by decide) ?_
          refine lv_istore_n (lv' := [(2, .int (0 : Int32)), (0, .ref (a 0)), (1, .int l1)]) hx hb d_St_tearAllOpen_33 rfl hl (by decide) rfl (fun ls hl => ?_)
          refine lv_iconst (v := (0 : Int32)) hx hb d_St_tearAllOpen_34 (by decide) ?_
          refine lv_istore_n (lv' := [(3, .int (0 : Int32)), (2, .int (0 : Int32)), (0, .ref (a 0)), (1, .int l1)]) hx hb d_St_tearAllOpen_35 rfl hl (by decide) rfl (fun ls hl => ?_)
          exact J_36 FU l1 (0 : Int32) (0 : Int32) v _ _ ls hP hD hS (lv_sub hl [2, 3, 1, 0] rfl) hf
        · replace hf := ob_ef c_21 hf
          refine lv_aload_n hx hb d_St_tearAllOpen_24 rfl (lv_at hl 0 rfl) ?_
          refine lv_iload_n hx hb d_St_tearAllOpen_25 rfl (lv_at hl 1 rfl) ?_
          obtain ⟨q_26, hc_26, hf⟩ := oc_e hf
          refine kcV (cc := c_St_tearAllOpen) (own := "FloodDiary$State") (index := 102) (wc := W_St G a v) (wr := ([] : va_W)) (wc' := W_St G a v) (ws' := W_St G a v) hx hb hml hown hts hK hN hA hP hD hS (t_St_stepsToTear l G a l1 v q_26 hc_26) m_St_stepsToTear k_381 ⟨Nat.le_of_ble_eq_true rfl, Nat.le_of_ble_eq_true rfl⟩ (pm_0 (W_St G a v)) (pm_0 (W_St G a v)).symm 6 0 rfl rfl rfl rfl rfl (Nat.le_of_ble_eq_true rfl) hl.1 d_St_tearAllOpen_26 ⟨Nat.zero_le _, Nat.zero_le _⟩ (fun H locs hP hD hS => ?_)
          refine lv_goto (tgt := 33) hx hb d_St_tearAllOpen_29 (by decide) ?_
          refine lv_istore_n (lv' := [(2, .int q_26), (0, .ref (a 0)), (1, .int l1)]) hx hb d_St_tearAllOpen_33 rfl hl (by decide) rfl (fun ls hl => ?_)
          refine lv_iconst (v := (0 : Int32)) hx hb d_St_tearAllOpen_34 (by decide) ?_
          refine lv_istore_n (lv' := [(3, .int (0 : Int32)), (2, .int q_26), (0, .ref (a 0)), (1, .int l1)]) hx hb d_St_tearAllOpen_35 rfl hl (by decide) rfl (fun ls hl => ?_)
          exact J_36 FU l1 q_26 (0 : Int32) v _ _ ls hP hD hS (lv_sub hl [2, 3, 1, 0] rfl) hf
  unfold f_St_tearAllOpen at hf
  refine lv_iconst (v := (0 : Int32)) hx hb d_St_tearAllOpen_0 (by decide) ?_
  refine lv_istore_n (lv' := [(1, .int (0 : Int32)), (0, .ref (a 0))]) hx hb d_St_tearAllOpen_1 rfl hl (by decide) rfl (fun ls hl => ?_)
  exact J_2 FU (0 : Int32) v _ _ ls hP hD hS (lv_sub hl [1, 0] rfl) hf
set_option maxHeartbeats 4000000 in
set_option maxRecDepth 100000 in
theorem t_St_lowestNeeded (l : Launch) (G : GG) (a : Nat → Nat) (v : V_St) (q : Int32) (hf : f_St_lowestNeeded v = some q) : MI l G y_St_lowestNeeded c_St_lowestNeeded 2 (some .int) (rmk 4 85) (W_St G a v) [.ref (a 0)] (W_St G a v) (q) := by
  refine ofI "FloodDiary$State" (by decide +kernel) rfl (Nat.le_of_ble_eq_true rfl) (fun p e s m args below meth c A ls hx hb hr hml hown hts hlk hK hN hA hP hD hS hl => ?_)
  have hl : lv_has ls 2 [(0, .ref (a 0))] := hl
  have J_2 : ∀ (n_2 : Nat) (l1 : Int32) (v : V_St) (H : Heap) (locs : List Loc) (ls : Array Slot), va_P G.1 vwCl (W_St G a v) H → va_D A (W_St G a v) → va_S A s.heap H locs → lv_has ls 2 [(0, .ref (a 0)), (1, .int l1)] → f_St_lowestNeeded_2 n_2 l1 v = some q → W p l e (rmk 4 85) s m args below meth c H locs 0 0 (MQ below (qI G A (W_St G a v) (q)) args s 0 0 A) (F0 m 2 ls []) := by
    intro n_2
    induction n_2 with
    | zero => intro l1 v H locs ls hP hD hS hl hf; exact absurd hf (by unfold f_St_lowestNeeded_2; exact fun z => by cases z)
    | succ n_2 ih_2 =>
      intro l1 v H locs ls hP hD hS hl hf
      rw [f_St_lowestNeeded_2] at hf
      refine lv_iload_n hx hb d_St_lowestNeeded_2 rfl (lv_at hl 1 rfl) ?_
      refine lv_aload_n hx hb d_St_lowestNeeded_3 rfl (lv_at hl 0 rfl) ?_
      refine va_get (D := G.1) (ci := 6) (v := .ref (a 6)) (C := R_St) (T := T_St) (N := 9) hx hb hts in_St hown hK hP 0 rfl rfl 1 (by decide) (hts _ k_116) (fun _ h9 => h9) rfl d_St_lowestNeeded_4 ?_
      refine va_getN (D := G.1) (ci := 0) (v := .int v.2.1.2.2.2.2.2.2.2.2) (C := R_Dy) (T := T_Dy) (N := 9) (host := "FloodDiary") hx hb hts in_Dy hown hK hP 6 rfl rfl 8 (by decide) (va_Nw.use rfl (hN.1 _ nsF_3)) (fun _ h9 => h9) rfl d_St_lowestNeeded_7 ?_
      refine lv_icmp_gt (tgt := 29) hx hb d_St_lowestNeeded_10 (by decide) (fun c_10 => ?_) (fun c_10 => ?_)
      · replace hf := ob_et c_10 hf
        refine lv_bipush (v := (-6 : Int32)) hx hb d_St_lowestNeeded_29 (by decide) ?_
        cases hf
        exact kI hx hb hr hlk hP hD hS d_St_lowestNeeded_31
      · replace hf := ob_ef c_10 hf
        refine lv_aload_n hx hb d_St_lowestNeeded_13 rfl (lv_at hl 0 rfl) ?_
        refine lv_iload_n hx hb d_St_lowestNeeded_14 rfl (lv_at hl 1 rfl) ?_
        obtain ⟨q_15, hc_15, hf⟩ := oc_e hf
        refine kcV (cc := c_St_lowestNeeded) (own := "FloodDiary$State") (index := 144) (wc := W_St G a v) (wr := ([] : va_W)) (wc' := W_St G a v) (ws' := W_St G a v) hx hb hml hown hts hK hN hA hP hD hS (t_St_isNeeded l G a l1 v q_15 hc_15) m_St_isNeeded k_614 ⟨Nat.le_of_ble_eq_true rfl, Nat.le_of_ble_eq_true rfl⟩ (pm_0 (W_St G a v)) (pm_0 (W_St G a v)).symm 6 0 rfl rfl rfl rfl rfl (Nat.le_of_ble_eq_true rfl) hl.1 d_St_lowestNeeded_15 ⟨Nat.zero_le _, Nat.zero_le _⟩ (fun H locs hP hD hS => ?_)
        refine lv_if_eq (tgt := 23) hx hb d_St_lowestNeeded_18 (by decide) (fun c_18 => ?_) (fun c_18 => ?_)
        · replace hf := ob_et c_18 hf
          refine lv_iinc (v := (l1 + (1 : Int32))) (lv' := [(1, .int (l1 + (1 : Int32))), (0, .ref (a 0))]) hx hb d_St_lowestNeeded_23 hl (k := 1) rfl rfl (by decide) rfl (fun ls hl => ?_)
          refine lv_goto (tgt := 2) hx hb d_St_lowestNeeded_26 (by decide) ?_
          exact ih_2 (l1 + (1 : Int32)) v _ _ ls hP hD hS (lv_sub hl [1, 0] rfl) hf
        · replace hf := ob_ef c_18 hf
          refine lv_iload_n hx hb d_St_lowestNeeded_21 rfl (lv_at hl 1 rfl) ?_
          cases hf
          exact kI hx hb hr hlk hP hD hS d_St_lowestNeeded_22
  unfold f_St_lowestNeeded at hf
  refine lv_iconst (v := (1 : Int32)) hx hb d_St_lowestNeeded_0 (by decide) ?_
  refine lv_istore_n (lv' := [(1, .int (1 : Int32)), (0, .ref (a 0))]) hx hb d_St_lowestNeeded_1 rfl hl (by decide) rfl (fun ls hl => ?_)
  exact J_2 FU (1 : Int32) v _ _ ls hP hD hS (lv_sub hl [1, 0] rfl) hf
set_option maxHeartbeats 4000000 in
set_option maxRecDepth 100000 in
theorem t_St_aboutPage (l : Launch) (G : GG) (a : Nat → Nat) (l1 : Int32) (l2 : Int32) (v : V_St) (q : Int32) (hf : f_St_aboutPage l1 l2 v = some q) : MI l G y_St_aboutPage c_St_aboutPage 3 (some .int) (rmk 4 86) (W_St G a v) [.ref (a 0), .int l1, .int l2] (W_St G a v) (q) := by
  refine ofI "FloodDiary$State" (by decide +kernel) rfl (Nat.le_of_ble_eq_true rfl) (fun p e s m args below meth c A ls hx hb hr hml hown hts hlk hK hN hA hP hD hS hl => ?_)
  have hl : lv_has ls 3 [(0, .ref (a 0)), (1, .int l1), (2, .int l2)] := hl
  unfold f_St_aboutPage at hf
  refine lv_iload_n hx hb d_St_aboutPage_0 rfl (lv_at hl 1 rfl) ?_
  obtain ⟨q_1, hc_1, hf⟩ := oc_e hf
  refine kcSN (cc := c_St_aboutPage) (own := "FloodDiary$State") (index := 78) (wc := ([] : va_W)) (wr := W_St G a v) (wc' := ([] : va_W)) (ws' := W_St G a v) hx hb hml hown hts hK hN hA hP hD hS (t_Fd_isPage l G l1 q_1 hc_1) m_Fd_isPage nsM_8 ⟨Nat.le_of_ble_eq_true rfl, Nat.le_of_ble_eq_true rfl⟩ (List.Perm.refl _) (List.Perm.refl _) rfl rfl (Nat.le_of_ble_eq_true rfl) hl.1 d_St_aboutPage_1 ⟨Nat.zero_le _, Nat.zero_le _⟩ (fun H locs hP hD hS => ?_)
  refine lv_if_ne (tgt := 9) hx hb d_St_aboutPage_4 (by decide) (fun c_4 => ?_) (fun c_4 => ?_)
  · replace hf := ob_ef c_4 hf
    refine lv_iload_n hx hb d_St_aboutPage_9 rfl (lv_at hl 2 rfl) ?_
    by_cases e_10_0 : l2 = (0 : Int32)
    · replace hf := ob_et e_10_0 hf
      refine lv_tableIn (off := 42) (tgt := 52) hx hb d_St_aboutPage_10 (by rw [e_10_0]; decide) (by rw [e_10_0]; decide) (by rw [e_10_0]; decide) (by decide) ?_
      refine lv_aload_n hx hb d_St_aboutPage_52 rfl (lv_at hl 0 rfl) ?_
      refine va_get (D := G.1) (ci := 6) (v := .ref (a 1)) (C := R_St) (T := T_St) (N := 9) hx hb hts in_St hown hK hP 0 rfl rfl 0 (by decide) (hts _ k_114) (fun _ h9 => h9) rfl d_St_aboutPage_53 ?_
      refine lv_iload_n hx hb d_St_aboutPage_56 rfl (lv_at hl 1 rfl) ?_
      obtain ⟨q_57, hc_57, hf⟩ := oc_e hf
      refine kcV (cc := c_St_aboutPage) (own := "FloodDiary$State") (index := 147) (wc := W_Pg G (sh a 1) v.1) (wr := O_St G a v ++ (W_Dy G (sh a 6) v.2.1 ++ (W_Wk G (sh a 14) v.2.2.1 ++ (([] : va_W))))) (wc' := W_Pg G (sh a 1) v.1) (ws' := W_St G a v) hx hb hml hown hts hK hN hA hP hD hS (t_Pg_valueOnShelf l G (sh a 1) l1 v.1 q_57 hc_57) m_Pg_valueOnShelf k_526 ⟨Nat.le_of_ble_eq_true rfl, Nat.le_of_ble_eq_true rfl⟩ (pm_8 (O_St G a v) (W_Pg G (sh a 1) v.1) (W_Dy G (sh a 6) v.2.1) (W_Wk G (sh a 14) v.2.2.1)) (pm_8 (O_St G a v) (W_Pg G (sh a 1) v.1) (W_Dy G (sh a 6) v.2.1) (W_Wk G (sh a 14) v.2.2.1)).symm 4 0 rfl rfl rfl rfl rfl (Nat.le_of_ble_eq_true rfl) hl.1 d_St_aboutPage_57 ⟨Nat.zero_le _, Nat.zero_le _⟩ (fun H locs hP hD hS => ?_)
      cases hf
      exact kI hx hb hr hlk hP hD hS d_St_aboutPage_60
    · replace hf := ob_ef e_10_0 hf
      by_cases e_10_1 : l2 = (1 : Int32)
      · replace hf := ob_et e_10_1 hf
        refine lv_tableIn (off := 51) (tgt := 61) hx hb d_St_aboutPage_10 (by rw [e_10_1]; decide) (by rw [e_10_1]; decide) (by rw [e_10_1]; decide) (by decide) ?_
        refine lv_aload_n hx hb d_St_aboutPage_61 rfl (lv_at hl 0 rfl) ?_
        refine va_get (D := G.1) (ci := 6) (v := .ref (a 1)) (C := R_St) (T := T_St) (N := 9) hx hb hts in_St hown hK hP 0 rfl rfl 0 (by decide) (hts _ k_114) (fun _ h9 => h9) rfl d_St_aboutPage_62 ?_
        refine lv_iload_n hx hb d_St_aboutPage_65 rfl (lv_at hl 1 rfl) ?_
        obtain ⟨q_66, hc_66, hf⟩ := oc_e hf
        refine kcV (cc := c_St_aboutPage) (own := "FloodDiary$State") (index := 150) (wc := W_Pg G (sh a 1) v.1) (wr := O_St G a v ++ (W_Dy G (sh a 6) v.2.1 ++ (W_Wk G (sh a 14) v.2.2.1 ++ (([] : va_W))))) (wc' := W_Pg G (sh a 1) v.1) (ws' := W_St G a v) hx hb hml hown hts hK hN hA hP hD hS (t_Pg_markOnShelf l G (sh a 1) l1 v.1 q_66 hc_66) m_Pg_markOnShelf k_530 ⟨Nat.le_of_ble_eq_true rfl, Nat.le_of_ble_eq_true rfl⟩ (pm_8 (O_St G a v) (W_Pg G (sh a 1) v.1) (W_Dy G (sh a 6) v.2.1) (W_Wk G (sh a 14) v.2.2.1)) (pm_8 (O_St G a v) (W_Pg G (sh a 1) v.1) (W_Dy G (sh a 6) v.2.1) (W_Wk G (sh a 14) v.2.2.1)).symm 4 0 rfl rfl rfl rfl rfl (Nat.le_of_ble_eq_true rfl) hl.1 d_St_aboutPage_66 ⟨Nat.zero_le _, Nat.zero_le _⟩ (fun H locs hP hD hS => ?_)
        cases hf
        exact kI hx hb hr hlk hP hD hS d_St_aboutPage_69
      · replace hf := ob_ef e_10_1 hf
        by_cases e_10_2 : l2 = (2 : Int32)
        · replace hf := ob_et e_10_2 hf
          refine lv_tableIn (off := 60) (tgt := 70) hx hb d_St_aboutPage_10 (by rw [e_10_2]; decide) (by rw [e_10_2]; decide) (by rw [e_10_2]; decide) (by decide) ?_
          refine lv_aload_n hx hb d_St_aboutPage_70 rfl (lv_at hl 0 rfl) ?_
          refine va_get (D := G.1) (ci := 6) (v := .ref (a 1)) (C := R_St) (T := T_St) (N := 9) hx hb hts in_St hown hK hP 0 rfl rfl 0 (by decide) (hts _ k_114) (fun _ h9 => h9) rfl d_St_aboutPage_71 ?_
          refine lv_iload_n hx hb d_St_aboutPage_74 rfl (lv_at hl 1 rfl) ?_
          obtain ⟨q_75, hc_75, hf⟩ := oc_e hf
          refine kcV (cc := c_St_aboutPage) (own := "FloodDiary$State") (index := 113) (wc := W_Pg G (sh a 1) v.1) (wr := O_St G a v ++ (W_Dy G (sh a 6) v.2.1 ++ (W_Wk G (sh a 14) v.2.2.1 ++ (([] : va_W))))) (wc' := W_Pg G (sh a 1) v.1) (ws' := W_St G a v) hx hb hml hown hts hK hN hA hP hD hS (t_Pg_isInHand l G (sh a 1) l1 v.1 q_75 hc_75) m_Pg_isInHand k_426 ⟨Nat.le_of_ble_eq_true rfl, Nat.le_of_ble_eq_true rfl⟩ (pm_8 (O_St G a v) (W_Pg G (sh a 1) v.1) (W_Dy G (sh a 6) v.2.1) (W_Wk G (sh a 14) v.2.2.1)) (pm_8 (O_St G a v) (W_Pg G (sh a 1) v.1) (W_Dy G (sh a 6) v.2.1) (W_Wk G (sh a 14) v.2.2.1)).symm 4 0 rfl rfl rfl rfl rfl (Nat.le_of_ble_eq_true rfl) hl.1 d_St_aboutPage_75 ⟨Nat.zero_le _, Nat.zero_le _⟩ (fun H locs hP hD hS => ?_)
          obtain ⟨q_78, hc_78, hf⟩ := oc_e hf
          refine kcSN (cc := c_St_aboutPage) (own := "FloodDiary$State") (index := 153) (wc := ([] : va_W)) (wr := W_St G a v) (wc' := ([] : va_W)) (ws' := W_St G a v) hx hb hml hown hts hK hN hA hP hD hS (t_Fd_asNumber l G q_75 q_78 hc_78) m_Fd_asNumber nsM_12 ⟨Nat.le_of_ble_eq_true rfl, Nat.le_of_ble_eq_true rfl⟩ (List.Perm.refl _) (List.Perm.refl _) rfl rfl (Nat.le_of_ble_eq_true rfl) hl.1 d_St_aboutPage_78 ⟨Nat.zero_le _, Nat.zero_le _⟩ (fun H locs hP hD hS => ?_)
          cases hf
          exact kI hx hb hr hlk hP hD hS d_St_aboutPage_81
        · replace hf := ob_ef e_10_2 hf
          by_cases e_10_3 : l2 = (3 : Int32)
          · replace hf := ob_et e_10_3 hf
            refine lv_tableIn (off := 72) (tgt := 82) hx hb d_St_aboutPage_10 (by rw [e_10_3]; decide) (by rw [e_10_3]; decide) (by rw [e_10_3]; decide) (by decide) ?_
            refine lv_aload_n hx hb d_St_aboutPage_82 rfl (lv_at hl 0 rfl) ?_
            refine va_get (D := G.1) (ci := 6) (v := .ref (a 1)) (C := R_St) (T := T_St) (N := 9) hx hb hts in_St hown hK hP 0 rfl rfl 0 (by decide) (hts _ k_114) (fun _ h9 => h9) rfl d_St_aboutPage_83 ?_
            refine lv_iload_n hx hb d_St_aboutPage_86 rfl (lv_at hl 1 rfl) ?_
            obtain ⟨q_87, hc_87, hf⟩ := oc_e hf
            refine kcV (cc := c_St_aboutPage) (own := "FloodDiary$State") (index := 92) (wc := W_Pg G (sh a 1) v.1) (wr := O_St G a v ++ (W_Dy G (sh a 6) v.2.1 ++ (W_Wk G (sh a 14) v.2.2.1 ++ (([] : va_W))))) (wc' := W_Pg G (sh a 1) v.1) (ws' := W_St G a v) hx hb hml hown hts hK hN hA hP hD hS (t_Pg_valueInHand l G (sh a 1) l1 v.1 q_87 hc_87) m_Pg_valueInHand k_341 ⟨Nat.le_of_ble_eq_true rfl, Nat.le_of_ble_eq_true rfl⟩ (pm_8 (O_St G a v) (W_Pg G (sh a 1) v.1) (W_Dy G (sh a 6) v.2.1) (W_Wk G (sh a 14) v.2.2.1)) (pm_8 (O_St G a v) (W_Pg G (sh a 1) v.1) (W_Dy G (sh a 6) v.2.1) (W_Wk G (sh a 14) v.2.2.1)).symm 4 0 rfl rfl rfl rfl rfl (Nat.le_of_ble_eq_true rfl) hl.1 d_St_aboutPage_87 ⟨Nat.zero_le _, Nat.zero_le _⟩ (fun H locs hP hD hS => ?_)
            cases hf
            exact kI hx hb hr hlk hP hD hS d_St_aboutPage_90
          · replace hf := ob_ef e_10_3 hf
            by_cases e_10_4 : l2 = (4 : Int32)
            · replace hf := ob_et e_10_4 hf
              refine lv_tableIn (off := 81) (tgt := 91) hx hb d_St_aboutPage_10 (by rw [e_10_4]; decide) (by rw [e_10_4]; decide) (by rw [e_10_4]; decide) (by decide) ?_
              refine lv_aload_n hx hb d_St_aboutPage_91 rfl (lv_at hl 0 rfl) ?_
              refine va_get (D := G.1) (ci := 6) (v := .ref (a 1)) (C := R_St) (T := T_St) (N := 9) hx hb hts in_St hown hK hP 0 rfl rfl 0 (by decide) (hts _ k_114) (fun _ h9 => h9) rfl d_St_aboutPage_92 ?_
              refine lv_iload_n hx hb d_St_aboutPage_95 rfl (lv_at hl 1 rfl) ?_
              obtain ⟨q_96, hc_96, hf⟩ := oc_e hf
              refine kcV (cc := c_St_aboutPage) (own := "FloodDiary$State") (index := 116) (wc := W_Pg G (sh a 1) v.1) (wr := O_St G a v ++ (W_Dy G (sh a 6) v.2.1 ++ (W_Wk G (sh a 14) v.2.2.1 ++ (([] : va_W))))) (wc' := W_Pg G (sh a 1) v.1) (ws' := W_St G a v) hx hb hml hown hts hK hN hA hP hD hS (t_Pg_markInHand l G (sh a 1) l1 v.1 q_96 hc_96) m_Pg_markInHand k_427 ⟨Nat.le_of_ble_eq_true rfl, Nat.le_of_ble_eq_true rfl⟩ (pm_8 (O_St G a v) (W_Pg G (sh a 1) v.1) (W_Dy G (sh a 6) v.2.1) (W_Wk G (sh a 14) v.2.2.1)) (pm_8 (O_St G a v) (W_Pg G (sh a 1) v.1) (W_Dy G (sh a 6) v.2.1) (W_Wk G (sh a 14) v.2.2.1)).symm 4 0 rfl rfl rfl rfl rfl (Nat.le_of_ble_eq_true rfl) hl.1 d_St_aboutPage_96 ⟨Nat.zero_le _, Nat.zero_le _⟩ (fun H locs hP hD hS => ?_)
              cases hf
              exact kI hx hb hr hlk hP hD hS d_St_aboutPage_99
            · replace hf := ob_ef e_10_4 hf
              by_cases e_10_5 : l2 = (5 : Int32)
              · replace hf := ob_et e_10_5 hf
                refine lv_tableIn (off := 90) (tgt := 100) hx hb d_St_aboutPage_10 (by rw [e_10_5]; decide) (by rw [e_10_5]; decide) (by rw [e_10_5]; decide) (by decide) ?_
                refine lv_aload_n hx hb d_St_aboutPage_100 rfl (lv_at hl 0 rfl) ?_
                refine va_get (D := G.1) (ci := 6) (v := .ref (a 1)) (C := R_St) (T := T_St) (N := 9) hx hb hts in_St hown hK hP 0 rfl rfl 0 (by decide) (hts _ k_114) (fun _ h9 => h9) rfl d_St_aboutPage_101 ?_
                refine lv_iload_n hx hb d_St_aboutPage_104 rfl (lv_at hl 1 rfl) ?_
                obtain ⟨q_105, hc_105, hf⟩ := oc_e hf
                refine kcV (cc := c_St_aboutPage) (own := "FloodDiary$State") (index := 157) (wc := W_Pg G (sh a 1) v.1) (wr := O_St G a v ++ (W_Dy G (sh a 6) v.2.1 ++ (W_Wk G (sh a 14) v.2.2.1 ++ (([] : va_W))))) (wc' := W_Pg G (sh a 1) v.1) (ws' := W_St G a v) hx hb hml hown hts hK hN hA hP hD hS (t_Pg_isDirty l G (sh a 1) l1 v.1 q_105 hc_105) m_Pg_isDirty k_537 ⟨Nat.le_of_ble_eq_true rfl, Nat.le_of_ble_eq_true rfl⟩ (pm_8 (O_St G a v) (W_Pg G (sh a 1) v.1) (W_Dy G (sh a 6) v.2.1) (W_Wk G (sh a 14) v.2.2.1)) (pm_8 (O_St G a v) (W_Pg G (sh a 1) v.1) (W_Dy G (sh a 6) v.2.1) (W_Wk G (sh a 14) v.2.2.1)).symm 4 0 rfl rfl rfl rfl rfl (Nat.le_of_ble_eq_true rfl) hl.1 d_St_aboutPage_105 ⟨Nat.zero_le _, Nat.zero_le _⟩ (fun H locs hP hD hS => ?_)
                obtain ⟨q_108, hc_108, hf⟩ := oc_e hf
                refine kcSN (cc := c_St_aboutPage) (own := "FloodDiary$State") (index := 153) (wc := ([] : va_W)) (wr := W_St G a v) (wc' := ([] : va_W)) (ws' := W_St G a v) hx hb hml hown hts hK hN hA hP hD hS (t_Fd_asNumber l G q_105 q_108 hc_108) m_Fd_asNumber nsM_12 ⟨Nat.le_of_ble_eq_true rfl, Nat.le_of_ble_eq_true rfl⟩ (List.Perm.refl _) (List.Perm.refl _) rfl rfl (Nat.le_of_ble_eq_true rfl) hl.1 d_St_aboutPage_108 ⟨Nat.zero_le _, Nat.zero_le _⟩ (fun H locs hP hD hS => ?_)
                cases hf
                exact kI hx hb hr hlk hP hD hS d_St_aboutPage_111
              · replace hf := ob_ef e_10_5 hf
                by_cases e_10_6 : l2 = (6 : Int32)
                · replace hf := ob_et e_10_6 hf
                  refine lv_tableIn (off := 102) (tgt := 112) hx hb d_St_aboutPage_10 (by rw [e_10_6]; decide) (by rw [e_10_6]; decide) (by rw [e_10_6]; decide) (by decide) ?_
                  refine lv_aload_n hx hb d_St_aboutPage_112 rfl (lv_at hl 0 rfl) ?_
                  refine va_get (D := G.1) (ci := 6) (v := .int v.2.2.2.1) (C := R_St) (T := T_St) (N := 9) hx hb hts in_St hown hK hP 0 rfl rfl 3 (by decide) (hts _ k_120) (fun _ h9 => h9) rfl d_St_aboutPage_113 ?_
                  refine lv_if_eq (tgt := 124) hx hb d_St_aboutPage_116 (by decide) (fun c_116 => ?_) (fun c_116 => ?_)
                  · replace hf := ob_et c_116 hf
                    refine lv_aload_n hx hb d_St_aboutPage_124 rfl (lv_at hl 0 rfl) ?_
                    refine va_get (D := G.1) (ci := 6) (v := .ref (a 14)) (C := R_St) (T := T_St) (N := 9) hx hb hts in_St hown hK hP 0 rfl rfl 2 (by decide) (hts _ k_118) (fun _ h9 => h9) rfl d_St_aboutPage_125 ?_
                    refine lv_iload_n hx hb d_St_aboutPage_128 rfl (lv_at hl 1 rfl) ?_
                    obtain ⟨q_129, hc_129, hf⟩ := oc_e hf
                    refine kcV (cc := c_St_aboutPage) (own := "FloodDiary$State") (index := 81) (wc := W_Wk G (sh a 14) v.2.2.1) (wr := O_St G a v ++ (W_Pg G (sh a 1) v.1 ++ (W_Dy G (sh a 6) v.2.1 ++ (([] : va_W))))) (wc' := W_Wk G (sh a 14) v.2.2.1) (ws' := W_St G a v) hx hb hml hown hts hK hN hA hP hD hS (t_Wk_holderOf l G (sh a 14) l1 v.2.2.1 q_129 hc_129) m_Wk_holderOf k_314 ⟨Nat.le_of_ble_eq_true rfl, Nat.le_of_ble_eq_true rfl⟩ (pm_6 (O_St G a v) (W_Pg G (sh a 1) v.1) (W_Dy G (sh a 6) v.2.1) (W_Wk G (sh a 14) v.2.2.1)) (pm_6 (O_St G a v) (W_Pg G (sh a 1) v.1) (W_Dy G (sh a 6) v.2.1) (W_Wk G (sh a 14) v.2.2.1)).symm 7 0 rfl rfl rfl rfl rfl (Nat.le_of_ble_eq_true rfl) hl.1 d_St_aboutPage_129 ⟨Nat.zero_le _, Nat.zero_le _⟩ (fun H locs hP hD hS => ?_)
                    cases hf
                    exact kI hx hb hr hlk hP hD hS d_St_aboutPage_132
                  · replace hf := ob_ef c_116 hf
                    refine lv_bipush (v := (-6 : Int32)) hx hb d_St_aboutPage_119 (by decide) ?_
                    refine lv_goto (tgt := 132) hx hb d_St_aboutPage_121 (by decide) ?_
                    cases hf
                    exact kI hx hb hr hlk hP hD hS d_St_aboutPage_132
                · replace hf := ob_ef e_10_6 hf
                  have z_10_0 := lv_neT e_10_0 (show (0 : Int32).toInt = 0 by decide)
                  have z_10_1 := lv_neT e_10_1 (show (1 : Int32).toInt = 1 by decide)
                  have z_10_2 := lv_neT e_10_2 (show (2 : Int32).toInt = 2 by decide)
                  have z_10_3 := lv_neT e_10_3 (show (3 : Int32).toInt = 3 by decide)
                  have z_10_4 := lv_neT e_10_4 (show (4 : Int32).toInt = 4 by decide)
                  have z_10_5 := lv_neT e_10_5 (show (5 : Int32).toInt = 5 by decide)
                  have z_10_6 := lv_neT e_10_6 (show (6 : Int32).toInt = 6 by decide)
                  refine lv_tableOut (tgt := 133) hx hb d_St_aboutPage_10 (by omega) (by decide) ?_
                  refine lv_bipush (v := (-2 : Int32)) hx hb d_St_aboutPage_133 (by decide) ?_
                  cases hf
                  exact kI hx hb hr hlk hP hD hS d_St_aboutPage_135
  · replace hf := ob_et c_4 hf
    refine lv_iconst (v := (-1 : Int32)) hx hb d_St_aboutPage_7 (by decide) ?_
    cases hf
    exact kI hx hb hr hlk hP hD hS d_St_aboutPage_8
set_option maxHeartbeats 4000000 in
set_option maxRecDepth 100000 in
theorem t_St_number (l : Launch) (G : GG) (a : Nat → Nat) (l1 : Int32) (v : V_St) (q : Int32) (hf : f_St_number l1 v = some q) : MI l G y_St_number c_St_number 2 (some .int) (rmk 4 84) (W_St G a v) [.ref (a 0), .int l1] (W_St G a v) (q) := by
  refine ofI "FloodDiary$State" (by decide +kernel) rfl (Nat.le_of_ble_eq_true rfl) (fun p e s m args below meth c A ls hx hb hr hml hown hts hlk hK hN hA hP hD hS hl => ?_)
  have hl : lv_has ls 2 [(0, .ref (a 0)), (1, .int l1)] := hl
  unfold f_St_number at hf
  refine lv_iload_n hx hb d_St_number_0 rfl (lv_at hl 1 rfl) ?_
  by_cases e_1_0 : l1 = (0 : Int32)
  · replace hf := ob_et e_1_0 hf
    refine lv_tableIn (off := 51) (tgt := 52) hx hb d_St_number_1 (by rw [e_1_0]; decide) (by rw [e_1_0]; decide) (by rw [e_1_0]; decide) (by decide) ?_
    refine lv_aload_n hx hb d_St_number_52 rfl (lv_at hl 0 rfl) ?_
    refine va_get (D := G.1) (ci := 6) (v := .ref (a 14)) (C := R_St) (T := T_St) (N := 9) hx hb hts in_St hown hK hP 0 rfl rfl 2 (by decide) (hts _ k_118) (fun _ h9 => h9) rfl d_St_number_53 ?_
    refine va_getN (D := G.1) (ci := 7) (v := .int v.2.2.1.2.2.2.2.2) (C := R_Wk) (T := T_Wk) (N := 6) (host := "FloodDiary") hx hb hts in_Wk hown hK hP 14 rfl rfl 5 (by decide) (va_Nw.use rfl (hN.1 _ nsF_4)) (fun _ h9 => h9) rfl d_St_number_56 ?_
    cases hf
    exact kI hx hb hr hlk hP hD hS d_St_number_59
  · replace hf := ob_ef e_1_0 hf
    by_cases e_1_1 : l1 = (1 : Int32)
    · replace hf := ob_et e_1_1 hf
      refine lv_tableIn (off := 59) (tgt := 60) hx hb d_St_number_1 (by rw [e_1_1]; decide) (by rw [e_1_1]; decide) (by rw [e_1_1]; decide) (by decide) ?_
      refine lv_aload_n hx hb d_St_number_60 rfl (lv_at hl 0 rfl) ?_
      refine va_get (D := G.1) (ci := 6) (v := .ref (a 6)) (C := R_St) (T := T_St) (N := 9) hx hb hts in_St hown hK hP 0 rfl rfl 1 (by decide) (hts _ k_116) (fun _ h9 => h9) rfl d_St_number_61 ?_
      refine va_getN (D := G.1) (ci := 0) (v := .int v.2.1.2.2.2.2.2.2.2.1) (C := R_Dy) (T := T_Dy) (N := 9) (host := "FloodDiary") hx hb hts in_Dy hown hK hP 6 rfl rfl 7 (by decide) (va_Nw.use rfl (hN.1 _ nsF_0)) (fun _ h9 => h9) rfl d_St_number_64 ?_
      cases hf
      exact kI hx hb hr hlk hP hD hS d_St_number_67
    · replace hf := ob_ef e_1_1 hf
      by_cases e_1_2 : l1 = (2 : Int32)
      · replace hf := ob_et e_1_2 hf
        refine lv_tableIn (off := 67) (tgt := 68) hx hb d_St_number_1 (by rw [e_1_2]; decide) (by rw [e_1_2]; decide) (by rw [e_1_2]; decide) (by decide) ?_
        refine lv_aload_n hx hb d_St_number_68 rfl (lv_at hl 0 rfl) ?_
        refine va_get (D := G.1) (ci := 6) (v := .ref (a 6)) (C := R_St) (T := T_St) (N := 9) hx hb hts in_St hown hK hP 0 rfl rfl 1 (by decide) (hts _ k_116) (fun _ h9 => h9) rfl d_St_number_69 ?_
        refine va_getN (D := G.1) (ci := 0) (v := .int v.2.1.2.2.2.2.2.2.2.2) (C := R_Dy) (T := T_Dy) (N := 9) (host := "FloodDiary") hx hb hts in_Dy hown hK hP 6 rfl rfl 8 (by decide) (va_Nw.use rfl (hN.1 _ nsF_3)) (fun _ h9 => h9) rfl d_St_number_72 ?_
        cases hf
        exact kI hx hb hr hlk hP hD hS d_St_number_75
      · replace hf := ob_ef e_1_2 hf
        by_cases e_1_3 : l1 = (3 : Int32)
        · replace hf := ob_et e_1_3 hf
          refine lv_tableIn (off := 75) (tgt := 76) hx hb d_St_number_1 (by rw [e_1_3]; decide) (by rw [e_1_3]; decide) (by rw [e_1_3]; decide) (by decide) ?_
          refine lv_aload_n hx hb d_St_number_76 rfl (lv_at hl 0 rfl) ?_
          refine va_get (D := G.1) (ci := 6) (v := .int v.2.2.2.1) (C := R_St) (T := T_St) (N := 9) hx hb hts in_St hown hK hP 0 rfl rfl 3 (by decide) (hts _ k_120) (fun _ h9 => h9) rfl d_St_number_77 ?_
          obtain ⟨q_80, hc_80, hf⟩ := oc_e hf
          refine kcSN (cc := c_St_number) (own := "FloodDiary$State") (index := 153) (wc := ([] : va_W)) (wr := W_St G a v) (wc' := ([] : va_W)) (ws' := W_St G a v) hx hb hml hown hts hK hN hA hP hD hS (t_Fd_asNumber l G v.2.2.2.1 q_80 hc_80) m_Fd_asNumber nsM_12 ⟨Nat.le_of_ble_eq_true rfl, Nat.le_of_ble_eq_true rfl⟩ (List.Perm.refl _) (List.Perm.refl _) rfl rfl (Nat.le_of_ble_eq_true rfl) hl.1 d_St_number_80 ⟨Nat.zero_le _, Nat.zero_le _⟩ (fun H locs hP hD hS => ?_)
          cases hf
          exact kI hx hb hr hlk hP hD hS d_St_number_83
        · replace hf := ob_ef e_1_3 hf
          by_cases e_1_4 : l1 = (4 : Int32)
          · replace hf := ob_et e_1_4 hf
            refine lv_tableIn (off := 83) (tgt := 84) hx hb d_St_number_1 (by rw [e_1_4]; decide) (by rw [e_1_4]; decide) (by rw [e_1_4]; decide) (by decide) ?_
            refine lv_aload_n hx hb d_St_number_84 rfl (lv_at hl 0 rfl) ?_
            refine va_get (D := G.1) (ci := 6) (v := .int v.2.2.2.2.2.2.1) (C := R_St) (T := T_St) (N := 9) hx hb hts in_St hown hK hP 0 rfl rfl 6 (by decide) (hts _ k_124) (fun _ h9 => h9) rfl d_St_number_85 ?_
            cases hf
            exact kI hx hb hr hlk hP hD hS d_St_number_88
          · replace hf := ob_ef e_1_4 hf
            by_cases e_1_5 : l1 = (5 : Int32)
            · replace hf := ob_et e_1_5 hf
              refine lv_tableIn (off := 88) (tgt := 89) hx hb d_St_number_1 (by rw [e_1_5]; decide) (by rw [e_1_5]; decide) (by rw [e_1_5]; decide) (by decide) ?_
              refine lv_aload_n hx hb d_St_number_89 rfl (lv_at hl 0 rfl) ?_
              refine va_get (D := G.1) (ci := 6) (v := .int v.2.2.2.2.2.2.2.1) (C := R_St) (T := T_St) (N := 9) hx hb hts in_St hown hK hP 0 rfl rfl 7 (by decide) (hts _ k_125) (fun _ h9 => h9) rfl d_St_number_90 ?_
              cases hf
              exact kI hx hb hr hlk hP hD hS d_St_number_93
            · replace hf := ob_ef e_1_5 hf
              by_cases e_1_6 : l1 = (6 : Int32)
              · replace hf := ob_et e_1_6 hf
                refine lv_tableIn (off := 93) (tgt := 94) hx hb d_St_number_1 (by rw [e_1_6]; decide) (by rw [e_1_6]; decide) (by rw [e_1_6]; decide) (by decide) ?_
                refine lv_aload_n hx hb d_St_number_94 rfl (lv_at hl 0 rfl) ?_
                refine va_get (D := G.1) (ci := 6) (v := .int v.2.2.2.2.2.2.2.2) (C := R_St) (T := T_St) (N := 9) hx hb hts in_St hown hK hP 0 rfl rfl 8 (by decide) (hts _ k_126) (fun _ h9 => h9) rfl d_St_number_95 ?_
                cases hf
                exact kI hx hb hr hlk hP hD hS d_St_number_98
              · replace hf := ob_ef e_1_6 hf
                by_cases e_1_7 : l1 = (7 : Int32)
                · replace hf := ob_et e_1_7 hf
                  refine lv_tableIn (off := 98) (tgt := 99) hx hb d_St_number_1 (by rw [e_1_7]; decide) (by rw [e_1_7]; decide) (by rw [e_1_7]; decide) (by decide) ?_
                  refine lv_aload_n hx hb d_St_number_99 rfl (lv_at hl 0 rfl) ?_
                  refine va_get (D := G.1) (ci := 6) (v := .ref (a 1)) (C := R_St) (T := T_St) (N := 9) hx hb hts in_St hown hK hP 0 rfl rfl 0 (by decide) (hts _ k_114) (fun _ h9 => h9) rfl d_St_number_100 ?_
                  obtain ⟨q_103, hc_103, hf⟩ := oc_e hf
                  refine kcV (cc := c_St_number) (own := "FloodDiary$State") (index := 160) (wc := W_Pg G (sh a 1) v.1) (wr := O_St G a v ++ (W_Dy G (sh a 6) v.2.1 ++ (W_Wk G (sh a 14) v.2.2.1 ++ (([] : va_W))))) (wc' := W_Pg G (sh a 1) v.1) (ws' := W_St G a v) hx hb hml hown hts hK hN hA hP hD hS (t_Pg_dirtySet l G (sh a 1) v.1 q_103 hc_103) m_Pg_dirtySet k_581 ⟨Nat.le_of_ble_eq_true rfl, Nat.le_of_ble_eq_true rfl⟩ (pm_8 (O_St G a v) (W_Pg G (sh a 1) v.1) (W_Dy G (sh a 6) v.2.1) (W_Wk G (sh a 14) v.2.2.1)) (pm_8 (O_St G a v) (W_Pg G (sh a 1) v.1) (W_Dy G (sh a 6) v.2.1) (W_Wk G (sh a 14) v.2.2.1)).symm 4 0 rfl rfl rfl rfl rfl (Nat.le_of_ble_eq_true rfl) hl.1 d_St_number_103 ⟨Nat.zero_le _, Nat.zero_le _⟩ (fun H locs hP hD hS => ?_)
                  cases hf
                  exact kI hx hb hr hlk hP hD hS d_St_number_106
                · replace hf := ob_ef e_1_7 hf
                  by_cases e_1_8 : l1 = (8 : Int32)
                  · replace hf := ob_et e_1_8 hf
                    refine lv_tableIn (off := 106) (tgt := 107) hx hb d_St_number_1 (by rw [e_1_8]; decide) (by rw [e_1_8]; decide) (by rw [e_1_8]; decide) (by decide) ?_
                    refine lv_aload_n hx hb d_St_number_107 rfl (lv_at hl 0 rfl) ?_
                    refine va_get (D := G.1) (ci := 6) (v := .ref (a 14)) (C := R_St) (T := T_St) (N := 9) hx hb hts in_St hown hK hP 0 rfl rfl 2 (by decide) (hts _ k_118) (fun _ h9 => h9) rfl d_St_number_108 ?_
                    obtain ⟨q_111, hc_111, hf⟩ := oc_e hf
                    refine kcV (cc := c_St_number) (own := "FloodDiary$State") (index := 163) (wc := W_Wk G (sh a 14) v.2.2.1) (wr := O_St G a v ++ (W_Pg G (sh a 1) v.1 ++ (W_Dy G (sh a 6) v.2.1 ++ (([] : va_W))))) (wc' := W_Wk G (sh a 14) v.2.2.1) (ws' := W_St G a v) hx hb hml hown hts hK hN hA hP hD hS (t_Wk_openSet l G (sh a 14) v.2.2.1 q_111 hc_111) m_Wk_openSet k_586 ⟨Nat.le_of_ble_eq_true rfl, Nat.le_of_ble_eq_true rfl⟩ (pm_6 (O_St G a v) (W_Pg G (sh a 1) v.1) (W_Dy G (sh a 6) v.2.1) (W_Wk G (sh a 14) v.2.2.1)) (pm_6 (O_St G a v) (W_Pg G (sh a 1) v.1) (W_Dy G (sh a 6) v.2.1) (W_Wk G (sh a 14) v.2.2.1)).symm 7 0 rfl rfl rfl rfl rfl (Nat.le_of_ble_eq_true rfl) hl.1 d_St_number_111 ⟨Nat.zero_le _, Nat.zero_le _⟩ (fun H locs hP hD hS => ?_)
                    cases hf
                    exact kI hx hb hr hlk hP hD hS d_St_number_114
                  · replace hf := ob_ef e_1_8 hf
                    have z_1_0 := lv_neT e_1_0 (show (0 : Int32).toInt = 0 by decide)
                    have z_1_1 := lv_neT e_1_1 (show (1 : Int32).toInt = 1 by decide)
                    have z_1_2 := lv_neT e_1_2 (show (2 : Int32).toInt = 2 by decide)
                    have z_1_3 := lv_neT e_1_3 (show (3 : Int32).toInt = 3 by decide)
                    have z_1_4 := lv_neT e_1_4 (show (4 : Int32).toInt = 4 by decide)
                    have z_1_5 := lv_neT e_1_5 (show (5 : Int32).toInt = 5 by decide)
                    have z_1_6 := lv_neT e_1_6 (show (6 : Int32).toInt = 6 by decide)
                    have z_1_7 := lv_neT e_1_7 (show (7 : Int32).toInt = 7 by decide)
                    have z_1_8 := lv_neT e_1_8 (show (8 : Int32).toInt = 8 by decide)
                    refine lv_tableOut (tgt := 115) hx hb d_St_number_1 (by omega) (by decide) ?_
                    refine lv_bipush (v := (-2 : Int32)) hx hb d_St_number_115 (by decide) ?_
                    cases hf
                    exact kI hx hb hr hlk hP hD hS d_St_number_117
