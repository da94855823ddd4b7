set_option maxHeartbeats 4000000 in
set_option maxRecDepth 100000 in
theorem t_Dy_has (l : Launch) (G : GG) (a : Nat → Nat) (l1 : Int32) (v : V_Dy) (q : Int32) (hf : f_Dy_has l1 v = some q) : MI l G y_Dy_has c_Dy_has 2 (some .boolean) (rmk 0 0) (W_Dy G a v) [.ref (a 0), .int l1] (W_Dy G a v) (q) := by
  refine ofI "FloodDiary$Diary" (by decide +kernel) rfl (Nat.le_of_ble_eq_true rfl) (fun p e s m args below meth c A ls hx hb hr hml hown hts hlk hK hN hA hP hD hS hl => ?_)
  have hl : lv_has ls 2 [(0, .ref (a 0)), (1, .int l1)] := hl
  unfold f_Dy_has at hf
  refine lv_iload_n hx hb d_Dy_has_0 rfl (lv_at hl 1 rfl) ?_
  refine lv_iconst (v := (1 : Int32)) hx hb d_Dy_has_1 (by decide) ?_
  refine lv_icmp_lt (tgt := 24) hx hb d_Dy_has_2 (by decide) (fun c_2 => ?_) (fun c_2 => ?_)
  · replace hf := ob_et c_2 hf
    refine lv_iconst (v := (0 : Int32)) hx hb d_Dy_has_24 (by decide) ?_
    cases hf
    exact kZ hx hb hr hlk hP hD hS (Or.inl rfl) d_Dy_has_25
  · replace hf := ob_ef c_2 hf
    refine lv_iload_n hx hb d_Dy_has_5 rfl (lv_at hl 1 rfl) ?_
    refine lv_aload_n hx hb d_Dy_has_6 rfl (lv_at hl 0 rfl) ?_
    refine va_get (D := G.1) (ci := 0) (v := .int v.2.2.2.2.2.2.2.1) (C := R_Dy) (T := T_Dy) (N := 9) hx hb hts in_Dy hown hK hP 0 rfl rfl 7 (by decide) (hts _ k_63) (fun _ h9 => h9) rfl d_Dy_has_7 ?_
    refine lv_icmp_gt (tgt := 24) hx hb d_Dy_has_10 (by decide) (fun c_10 => ?_) (fun c_10 => ?_)
    · replace hf := ob_et c_10 hf
      refine lv_iconst (v := (0 : Int32)) hx hb d_Dy_has_24 (by decide) ?_
      cases hf
      exact kZ hx hb hr hlk hP hD hS (Or.inl rfl) d_Dy_has_25
    · replace hf := ob_ef c_10 hf
      refine lv_iload_n hx hb d_Dy_has_13 rfl (lv_at hl 1 rfl) ?_
      refine lv_sipush (v := (300 : Int32)) hx hb d_Dy_has_14 (by decide) ?_
      refine lv_icmp_gt (tgt := 24) hx hb d_Dy_has_17 (by decide) (fun c_17 => ?_) (fun c_17 => ?_)
      · replace hf := ob_et c_17 hf
        refine lv_iconst (v := (0 : Int32)) hx hb d_Dy_has_24 (by decide) ?_
        cases hf
        exact kZ hx hb hr hlk hP hD hS (Or.inl rfl) d_Dy_has_25
      · replace hf := ob_ef c_17 hf
        refine lv_iconst (v := (1 : Int32)) hx hb d_Dy_has_20 (by decide) ?_
        refine lv_goto (tgt := 25) hx hb d_Dy_has_21 (by decide) ?_
        cases hf
        exact kZ hx hb hr hlk hP hD hS (Or.inr rfl) d_Dy_has_25
set_option maxHeartbeats 4000000 in
set_option maxRecDepth 100000 in
theorem t_Dy_isFull (l : Launch) (G : GG) (a : Nat → Nat) (v : V_Dy) (q : Int32) (hf : f_Dy_isFull v = some q) : MI l G y_Dy_isFull c_Dy_isFull 1 (some .boolean) (rmk 0 0) (W_Dy G a v) [.ref (a 0)] (W_Dy G a v) (q) := by
  refine ofI "FloodDiary$Diary" (by decide +kernel) rfl (Nat.le_of_ble_eq_true rfl) (fun p e s m args below meth c A ls hx hb hr hml hown hts hlk hK hN hA hP hD hS hl => ?_)
  have hl : lv_has ls 1 [(0, .ref (a 0))] := hl
  unfold f_Dy_isFull at hf
  refine lv_aload_n hx hb d_Dy_isFull_0 rfl (lv_at hl 0 rfl) ?_
  refine va_get (D := G.1) (ci := 0) (v := .int v.2.2.2.2.2.2.2.1) (C := R_Dy) (T := T_Dy) (N := 9) hx hb hts in_Dy hown hK hP 0 rfl rfl 7 (by decide) (hts _ k_63) (fun _ h9 => h9) rfl d_Dy_isFull_1 ?_
  refine lv_sipush (v := (150 : Int32)) hx hb d_Dy_isFull_4 (by decide) ?_
  refine lv_icmp_lt (tgt := 14) hx hb d_Dy_isFull_7 (by decide) (fun c_7 => ?_) (fun c_7 => ?_)
  · replace hf := ob_et c_7 hf
    refine lv_iconst (v := (0 : Int32)) hx hb d_Dy_isFull_14 (by decide) ?_
    cases hf
    exact kZ hx hb hr hlk hP hD hS (Or.inl rfl) d_Dy_isFull_15
  · replace hf := ob_ef c_7 hf
    refine lv_iconst (v := (1 : Int32)) hx hb d_Dy_isFull_10 (by decide) ?_
    refine lv_goto (tgt := 15) hx hb d_Dy_isFull_11 (by decide) ?_
    cases hf
    exact kZ hx hb hr hlk hP hD hS (Or.inr rfl) d_Dy_isFull_15
set_option maxHeartbeats 4000000 in
set_option maxRecDepth 100000 in
theorem t_Dy_add (l : Launch) (G : GG) (a : Nat → Nat) (l1 : Int32) (l2 : Int32) (l3 : Int32) (v : V_Dy) (q : Int32 × V_Dy) (hf : f_Dy_add l1 l2 l3 v = some q) : MI l G y_Dy_add c_Dy_add 4 (some .int) (rmk 0 0) (W_Dy G a v) [.ref (a 0), .int l1, .int l2, .int l3] (W_Dy G a q.2) (q.1) := by
  refine ofI "FloodDiary$Diary" (by decide +kernel) rfl (Nat.le_of_ble_eq_true rfl) (fun p e s m args below meth c A ls hx hb hr hml hown hts hlk hK hN hA hP hD hS hl => ?_)
  have hl : lv_has ls 4 [(0, .ref (a 0)), (1, .int l1), (2, .int l2), (3, .int l3)] := hl
  unfold f_Dy_add at hf
  refine lv_aload_n hx hb d_Dy_add_0 rfl (lv_at hl 0 rfl) ?_
  refine va_get (D := G.1) (ci := 0) (v := .int v.2.2.2.2.2.2.2.1) (C := R_Dy) (T := T_Dy) (N := 9) hx hb hts in_Dy hown hK hP 0 rfl rfl 7 (by decide) (hts _ k_63) (fun _ h9 => h9) rfl d_Dy_add_1 ?_
  refine lv_sipush (v := (300 : Int32)) hx hb d_Dy_add_4 (by decide) ?_
  refine lv_icmp_lt (tgt := 12) hx hb d_Dy_add_7 (by decide) (fun c_7 => ?_) (fun c_7 => ?_)
  · replace hf := ob_et c_7 hf
    refine lv_aload_n hx hb d_Dy_add_12 rfl (lv_at hl 0 rfl) ?_
    refine lv_dup hx hb d_Dy_add_13 rfl ?_
    refine va_get (D := G.1) (ci := 0) (v := .int v.2.2.2.2.2.2.2.1) (C := R_Dy) (T := T_Dy) (N := 9) hx hb hts in_Dy hown hK hP 0 rfl rfl 7 (by decide) (hts _ k_63) (fun _ h9 => h9) rfl d_Dy_add_14 ?_
    refine lv_iconst (v := (1 : Int32)) hx hb d_Dy_add_17 (by decide) ?_
    refine lv_iadd hx hb d_Dy_add_18 ?_
    refine va_put (D := G.1) (ci := 0) (v := .int (v.2.2.2.2.2.2.2.1 + (1 : Int32))) (ty := .int) (C := R_Dy) (T := T_Dy) (N := 9) hx hb hts in_Dy ty_Dy ty_Dy_ok nm_Dy hown hK hP hD hS 0 rfl rfl 7 (by decide) (hts _ k_63) (fun _ h9 => h9) rfl (ty_Dy_ok 7 (by decide)) rfl rfl (Nat.le_of_ble_eq_true rfl) d_Dy_add_19 (fun H locs hP hD hS => ?_)
    have hP : va_P G.1 vwCl (W_Dy G a (v.1, v.2.1, v.2.2.1, v.2.2.2.1, v.2.2.2.2.1, v.2.2.2.2.2.1, v.2.2.2.2.2.2.1, (v.2.2.2.2.2.2.2.1 + (1 : Int32)), v.2.2.2.2.2.2.2.2)) H := hP
    have hD : va_D A (W_Dy G a (v.1, v.2.1, v.2.2.1, v.2.2.2.1, v.2.2.2.2.1, v.2.2.2.2.2.1, v.2.2.2.2.2.2.1, (v.2.2.2.2.2.2.2.1 + (1 : Int32)), v.2.2.2.2.2.2.2.2)) := hD
    refine lv_aload_n hx hb d_Dy_add_22 rfl (lv_at hl 0 rfl) ?_
    refine va_get (D := G.1) (ci := 0) (v := .ref (a 1)) (C := R_Dy) (T := T_Dy) (N := 9) hx hb hts in_Dy hown hK hP 0 rfl rfl 0 (by decide) (hts _ k_56) (fun _ h9 => h9) rfl d_Dy_add_23 ?_
    refine lv_aload_n hx hb d_Dy_add_26 rfl (lv_at hl 0 rfl) ?_
    refine va_get (D := G.1) (ci := 0) (v := .int (v.2.2.2.2.2.2.2.1 + (1 : Int32))) (C := R_Dy) (T := T_Dy) (N := 9) hx hb hts in_Dy hown hK hP 0 rfl rfl 7 (by decide) (hts _ k_63) (fun _ h9 => h9) rfl d_Dy_add_27 ?_
    refine lv_iload_n hx hb d_Dy_add_30 rfl (lv_at hl 1 rfl) ?_
    obtain ⟨g_31, hf⟩ := og_e hf
    obtain ⟨r_31, er_31, hf⟩ := nx_e hf
    refine va_iast hx hb hK hP hD hS 1 0 rfl rfl g_31 d_Dy_add_31 (fun H locs hP hD hS => ?_)
    rw [← er_31] at hP hD
    have hP : va_P G.1 vwCl (W_Dy G a (r_31, v.2.1, v.2.2.1, v.2.2.2.1, v.2.2.2.2.1, v.2.2.2.2.2.1, v.2.2.2.2.2.2.1, (v.2.2.2.2.2.2.2.1 + (1 : Int32)), v.2.2.2.2.2.2.2.2)) H := hP
    have hD : va_D A (W_Dy G a (r_31, v.2.1, v.2.2.1, v.2.2.2.1, v.2.2.2.2.1, v.2.2.2.2.2.1, v.2.2.2.2.2.2.1, (v.2.2.2.2.2.2.2.1 + (1 : Int32)), v.2.2.2.2.2.2.2.2)) := hD
    refine lv_aload_n hx hb d_Dy_add_32 rfl (lv_at hl 0 rfl) ?_
    refine va_get (D := G.1) (ci := 0) (v := .ref (a 2)) (C := R_Dy) (T := T_Dy) (N := 9) hx hb hts in_Dy hown hK hP 0 rfl rfl 1 (by decide) (hts _ k_57) (fun _ h9 => h9) rfl d_Dy_add_33 ?_
    refine lv_aload_n hx hb d_Dy_add_36 rfl (lv_at hl 0 rfl) ?_
    refine va_get (D := G.1) (ci := 0) (v := .int (v.2.2.2.2.2.2.2.1 + (1 : Int32))) (C := R_Dy) (T := T_Dy) (N := 9) hx hb hts in_Dy hown hK hP 0 rfl rfl 7 (by decide) (hts _ k_63) (fun _ h9 => h9) rfl d_Dy_add_37 ?_
    refine lv_iload_n hx hb d_Dy_add_40 rfl (lv_at hl 2 rfl) ?_
    obtain ⟨g_41, hf⟩ := og_e hf
    obtain ⟨r_41, er_41, hf⟩ := nx_e hf
    refine va_iast hx hb hK hP hD hS 2 0 rfl rfl g_41 d_Dy_add_41 (fun H locs hP hD hS => ?_)
    rw [← er_41] at hP hD
    have hP : va_P G.1 vwCl (W_Dy G a (r_31, r_41, v.2.2.1, v.2.2.2.1, v.2.2.2.2.1, v.2.2.2.2.2.1, v.2.2.2.2.2.2.1, (v.2.2.2.2.2.2.2.1 + (1 : Int32)), v.2.2.2.2.2.2.2.2)) H := hP
    have hD : va_D A (W_Dy G a (r_31, r_41, v.2.2.1, v.2.2.2.1, v.2.2.2.2.1, v.2.2.2.2.2.1, v.2.2.2.2.2.2.1, (v.2.2.2.2.2.2.2.1 + (1 : Int32)), v.2.2.2.2.2.2.2.2)) := hD
    refine lv_aload_n hx hb d_Dy_add_42 rfl (lv_at hl 0 rfl) ?_
    refine va_get (D := G.1) (ci := 0) (v := .ref (a 3)) (C := R_Dy) (T := T_Dy) (N := 9) hx hb hts in_Dy hown hK hP 0 rfl rfl 2 (by decide) (hts _ k_58) (fun _ h9 => h9) rfl d_Dy_add_43 ?_
    refine lv_aload_n hx hb d_Dy_add_46 rfl (lv_at hl 0 rfl) ?_
    refine va_get (D := G.1) (ci := 0) (v := .int (v.2.2.2.2.2.2.2.1 + (1 : Int32))) (C := R_Dy) (T := T_Dy) (N := 9) hx hb hts in_Dy hown hK hP 0 rfl rfl 7 (by decide) (hts _ k_63) (fun _ h9 => h9) rfl d_Dy_add_47 ?_
    refine lv_iload_n hx hb d_Dy_add_50 rfl (lv_at hl 3 rfl) ?_
    obtain ⟨g_51, hf⟩ := og_e hf
    obtain ⟨r_51, er_51, hf⟩ := nx_e hf
    refine va_iast hx hb hK hP hD hS 3 0 rfl rfl g_51 d_Dy_add_51 (fun H locs hP hD hS => ?_)
    rw [← er_51] at hP hD
    have hP : va_P G.1 vwCl (W_Dy G a (r_31, r_41, r_51, v.2.2.2.1, v.2.2.2.2.1, v.2.2.2.2.2.1, v.2.2.2.2.2.2.1, (v.2.2.2.2.2.2.2.1 + (1 : Int32)), v.2.2.2.2.2.2.2.2)) H := hP
    have hD : va_D A (W_Dy G a (r_31, r_41, r_51, v.2.2.2.1, v.2.2.2.2.1, v.2.2.2.2.2.1, v.2.2.2.2.2.2.1, (v.2.2.2.2.2.2.2.1 + (1 : Int32)), v.2.2.2.2.2.2.2.2)) := hD
    refine lv_aload_n hx hb d_Dy_add_52 rfl (lv_at hl 0 rfl) ?_
    refine va_get (D := G.1) (ci := 0) (v := .ref (a 4)) (C := R_Dy) (T := T_Dy) (N := 9) hx hb hts in_Dy hown hK hP 0 rfl rfl 3 (by decide) (hts _ k_59) (fun _ h9 => h9) rfl d_Dy_add_53 ?_
    refine lv_aload_n hx hb d_Dy_add_56 rfl (lv_at hl 0 rfl) ?_
    refine va_get (D := G.1) (ci := 0) (v := .int (v.2.2.2.2.2.2.2.1 + (1 : Int32))) (C := R_Dy) (T := T_Dy) (N := 9) hx hb hts in_Dy hown hK hP 0 rfl rfl 7 (by decide) (hts _ k_63) (fun _ h9 => h9) rfl d_Dy_add_57 ?_
    refine lv_bipush (v := (-6 : Int32)) hx hb d_Dy_add_60 (by decide) ?_
    obtain ⟨g_62, hf⟩ := og_e hf
    obtain ⟨r_62, er_62, hf⟩ := nx_e hf
    refine va_iast hx hb hK hP hD hS 4 0 rfl rfl g_62 d_Dy_add_62 (fun H locs hP hD hS => ?_)
    rw [← er_62] at hP hD
    have hP : va_P G.1 vwCl (W_Dy G a (r_31, r_41, r_51, r_62, v.2.2.2.2.1, v.2.2.2.2.2.1, v.2.2.2.2.2.2.1, (v.2.2.2.2.2.2.2.1 + (1 : Int32)), v.2.2.2.2.2.2.2.2)) H := hP
    have hD : va_D A (W_Dy G a (r_31, r_41, r_51, r_62, v.2.2.2.2.1, v.2.2.2.2.2.1, v.2.2.2.2.2.2.1, (v.2.2.2.2.2.2.2.1 + (1 : Int32)), v.2.2.2.2.2.2.2.2)) := hD
    refine lv_aload_n hx hb d_Dy_add_63 rfl (lv_at hl 0 rfl) ?_
    refine va_get (D := G.1) (ci := 0) (v := .ref (a 5)) (C := R_Dy) (T := T_Dy) (N := 9) hx hb hts in_Dy hown hK hP 0 rfl rfl 4 (by decide) (hts _ k_60) (fun _ h9 => h9) rfl d_Dy_add_64 ?_
    refine lv_aload_n hx hb d_Dy_add_67 rfl (lv_at hl 0 rfl) ?_
    refine va_get (D := G.1) (ci := 0) (v := .int (v.2.2.2.2.2.2.2.1 + (1 : Int32))) (C := R_Dy) (T := T_Dy) (N := 9) hx hb hts in_Dy hown hK hP 0 rfl rfl 7 (by decide) (hts _ k_63) (fun _ h9 => h9) rfl d_Dy_add_68 ?_
    refine lv_bipush (v := (-6 : Int32)) hx hb d_Dy_add_71 (by decide) ?_
    obtain ⟨g_73, hf⟩ := og_e hf
    obtain ⟨r_73, er_73, hf⟩ := nx_e hf
    refine va_iast hx hb hK hP hD hS 5 0 rfl rfl g_73 d_Dy_add_73 (fun H locs hP hD hS => ?_)
    rw [← er_73] at hP hD
    have hP : va_P G.1 vwCl (W_Dy G a (r_31, r_41, r_51, r_62, r_73, v.2.2.2.2.2.1, v.2.2.2.2.2.2.1, (v.2.2.2.2.2.2.2.1 + (1 : Int32)), v.2.2.2.2.2.2.2.2)) H := hP
    have hD : va_D A (W_Dy G a (r_31, r_41, r_51, r_62, r_73, v.2.2.2.2.2.1, v.2.2.2.2.2.2.1, (v.2.2.2.2.2.2.2.1 + (1 : Int32)), v.2.2.2.2.2.2.2.2)) := hD
    refine lv_aload_n hx hb d_Dy_add_74 rfl (lv_at hl 0 rfl) ?_
    refine va_get (D := G.1) (ci := 0) (v := .ref (a 6)) (C := R_Dy) (T := T_Dy) (N := 9) hx hb hts in_Dy hown hK hP 0 rfl rfl 5 (by decide) (hts _ k_61) (fun _ h9 => h9) rfl d_Dy_add_75 ?_
    refine lv_aload_n hx hb d_Dy_add_78 rfl (lv_at hl 0 rfl) ?_
    refine va_get (D := G.1) (ci := 0) (v := .int (v.2.2.2.2.2.2.2.1 + (1 : Int32))) (C := R_Dy) (T := T_Dy) (N := 9) hx hb hts in_Dy hown hK hP 0 rfl rfl 7 (by decide) (hts _ k_63) (fun _ h9 => h9) rfl d_Dy_add_79 ?_
    refine lv_bipush (v := (-6 : Int32)) hx hb d_Dy_add_82 (by decide) ?_
    obtain ⟨g_84, hf⟩ := og_e hf
    obtain ⟨r_84, er_84, hf⟩ := nx_e hf
    refine va_iast hx hb hK hP hD hS 6 0 rfl rfl g_84 d_Dy_add_84 (fun H locs hP hD hS => ?_)
    rw [← er_84] at hP hD
    have hP : va_P G.1 vwCl (W_Dy G a (r_31, r_41, r_51, r_62, r_73, r_84, v.2.2.2.2.2.2.1, (v.2.2.2.2.2.2.2.1 + (1 : Int32)), v.2.2.2.2.2.2.2.2)) H := hP
    have hD : va_D A (W_Dy G a (r_31, r_41, r_51, r_62, r_73, r_84, v.2.2.2.2.2.2.1, (v.2.2.2.2.2.2.2.1 + (1 : Int32)), v.2.2.2.2.2.2.2.2)) := hD
    refine lv_aload_n hx hb d_Dy_add_85 rfl (lv_at hl 0 rfl) ?_
    refine va_get (D := G.1) (ci := 0) (v := .ref (a 7)) (C := R_Dy) (T := T_Dy) (N := 9) hx hb hts in_Dy hown hK hP 0 rfl rfl 6 (by decide) (hts _ k_62) (fun _ h9 => h9) rfl d_Dy_add_86 ?_
    refine lv_aload_n hx hb d_Dy_add_89 rfl (lv_at hl 0 rfl) ?_
    refine va_get (D := G.1) (ci := 0) (v := .int (v.2.2.2.2.2.2.2.1 + (1 : Int32))) (C := R_Dy) (T := T_Dy) (N := 9) hx hb hts in_Dy hown hK hP 0 rfl rfl 7 (by decide) (hts _ k_63) (fun _ h9 => h9) rfl d_Dy_add_90 ?_
    refine lv_bipush (v := (-6 : Int32)) hx hb d_Dy_add_93 (by decide) ?_
    obtain ⟨g_95, hf⟩ := og_e hf
    obtain ⟨r_95, er_95, hf⟩ := nx_e hf
    refine va_iast hx hb hK hP hD hS 7 0 rfl rfl g_95 d_Dy_add_95 (fun H locs hP hD hS => ?_)
    rw [← er_95] at hP hD
    have hP : va_P G.1 vwCl (W_Dy G a (r_31, r_41, r_51, r_62, r_73, r_84, r_95, (v.2.2.2.2.2.2.2.1 + (1 : Int32)), v.2.2.2.2.2.2.2.2)) H := hP
    have hD : va_D A (W_Dy G a (r_31, r_41, r_51, r_62, r_73, r_84, r_95, (v.2.2.2.2.2.2.2.1 + (1 : Int32)), v.2.2.2.2.2.2.2.2)) := hD
    refine lv_aload_n hx hb d_Dy_add_96 rfl (lv_at hl 0 rfl) ?_
    refine va_get (D := G.1) (ci := 0) (v := .int (v.2.2.2.2.2.2.2.1 + (1 : Int32))) (C := R_Dy) (T := T_Dy) (N := 9) hx hb hts in_Dy hown hK hP 0 rfl rfl 7 (by decide) (hts _ k_63) (fun _ h9 => h9) rfl d_Dy_add_97 ?_
    cases hf
    exact kI hx hb hr hlk hP hD hS d_Dy_add_100
  · replace hf := ob_ef c_7 hf
    refine lv_iconst (v := (0 : Int32)) hx hb d_Dy_add_10 (by decide) ?_
    cases hf
    exact kI hx hb hr hlk hP hD hS d_Dy_add_11
set_option maxHeartbeats 4000000 in
set_option maxRecDepth 100000 in
theorem t_Dy_tellPage (l : Launch) (G : GG) (a : Nat → Nat) (l1 : Int32) (l2 : Int32) (l3 : Int32) (l4 : Int32) (l5 : Int32) (v : V_Dy) (q : V_Dy) (hf : f_Dy_tellPage l1 l2 l3 l4 l5 v = some q) : MV l G y_Dy_tellPage c_Dy_tellPage 6 (rmk 1 21) (W_Dy G a v) [.ref (a 0), .int l1, .int l2, .int l3, .int l4, .int l5] (W_Dy G a q) := by
  refine ofV "FloodDiary$Diary" (by decide +kernel) rfl (Nat.le_of_ble_eq_true rfl) (fun p e s m args below meth c A ls hx hb hr hml hown hts hlk hK hN hA hP hD hS hl => ?_)
  have hl : lv_has ls 6 [(0, .ref (a 0)), (1, .int l1), (2, .int l2), (3, .int l3), (4, .int l4), (5, .int l5)] := hl
  unfold f_Dy_tellPage at hf
  refine lv_aload_n hx hb d_Dy_tellPage_0 rfl (lv_at hl 0 rfl) ?_
  refine lv_iload_n hx hb d_Dy_tellPage_1 rfl (lv_at hl 1 rfl) ?_
  obtain ⟨q_2, hc_2, hf⟩ := oc_e hf
  refine kcV (cc := c_Dy_tellPage) (own := "FloodDiary$Diary") (index := 46) (wc := W_Dy G a v) (wr := ([] : va_W)) (wc' := W_Dy G a v) (ws' := W_Dy G a v) hx hb hml hown hts hK hN hA hP hD hS (t_Dy_has l G a l1 v q_2 hc_2) m_Dy_has k_353 ⟨Nat.le_of_ble_eq_true rfl, Nat.le_of_ble_eq_true rfl⟩ (pm_0 (W_Dy G a v)) (pm_0 (W_Dy G a v)).symm 0 0 rfl rfl rfl rfl rfl (Nat.le_of_ble_eq_true rfl) hl.1 d_Dy_tellPage_2 ⟨Nat.zero_le _, Nat.zero_le _⟩ (fun H locs hP hD hS => ?_)
  refine lv_if_eq (tgt := 38) hx hb d_Dy_tellPage_5 (by decide) (fun c_5 => ?_) (fun c_5 => ?_)
  · replace hf := ob_et c_5 hf
    cases hf
    exact kV hx hb hr hlk hP hD hS d_Dy_tellPage_38
  · replace hf := ob_ef c_5 hf
    refine lv_aload_n hx hb d_Dy_tellPage_8 rfl (lv_at hl 0 rfl) ?_
    refine va_get (D := G.1) (ci := 0) (v := .ref (a 4)) (C := R_Dy) (T := T_Dy) (N := 9) hx hb hts in_Dy hown hK hP 0 rfl rfl 3 (by decide) (hts _ k_59) (fun _ h9 => h9) rfl d_Dy_tellPage_9 ?_
    refine lv_iload_n hx hb d_Dy_tellPage_12 rfl (lv_at hl 1 rfl) ?_
    refine lv_iload_n hx hb d_Dy_tellPage_13 rfl (lv_at hl 2 rfl) ?_
    obtain ⟨g_14, hf⟩ := og_e hf
    obtain ⟨r_14, er_14, hf⟩ := nx_e hf
    refine va_iast hx hb hK hP hD hS 4 0 rfl rfl g_14 d_Dy_tellPage_14 (fun H locs hP hD hS => ?_)
    rw [← er_14] at hP hD
    have hP : va_P G.1 vwCl (W_Dy G a (v.1, v.2.1, v.2.2.1, r_14, v.2.2.2.2.1, v.2.2.2.2.2.1, v.2.2.2.2.2.2.1, v.2.2.2.2.2.2.2.1, v.2.2.2.2.2.2.2.2)) H := hP
    have hD : va_D A (W_Dy G a (v.1, v.2.1, v.2.2.1, r_14, v.2.2.2.2.1, v.2.2.2.2.2.1, v.2.2.2.2.2.2.1, v.2.2.2.2.2.2.2.1, v.2.2.2.2.2.2.2.2)) := hD
    refine lv_aload_n hx hb d_Dy_tellPage_15 rfl (lv_at hl 0 rfl) ?_
    refine va_get (D := G.1) (ci := 0) (v := .ref (a 5)) (C := R_Dy) (T := T_Dy) (N := 9) hx hb hts in_Dy hown hK hP 0 rfl rfl 4 (by decide) (hts _ k_60) (fun _ h9 => h9) rfl d_Dy_tellPage_16 ?_
    refine lv_iload_n hx hb d_Dy_tellPage_19 rfl (lv_at hl 1 rfl) ?_
    refine lv_iload_n hx hb d_Dy_tellPage_20 rfl (lv_at hl 3 rfl) ?_
    obtain ⟨g_21, hf⟩ := og_e hf
    obtain ⟨r_21, er_21, hf⟩ := nx_e hf
    refine va_iast hx hb hK hP hD hS 5 0 rfl rfl g_21 d_Dy_tellPage_21 (fun H locs hP hD hS => ?_)
    rw [← er_21] at hP hD
    have hP : va_P G.1 vwCl (W_Dy G a (v.1, v.2.1, v.2.2.1, r_14, r_21, v.2.2.2.2.2.1, v.2.2.2.2.2.2.1, v.2.2.2.2.2.2.2.1, v.2.2.2.2.2.2.2.2)) H := hP
    have hD : va_D A (W_Dy G a (v.1, v.2.1, v.2.2.1, r_14, r_21, v.2.2.2.2.2.1, v.2.2.2.2.2.2.1, v.2.2.2.2.2.2.2.1, v.2.2.2.2.2.2.2.2)) := hD
    refine lv_aload_n hx hb d_Dy_tellPage_22 rfl (lv_at hl 0 rfl) ?_
    refine va_get (D := G.1) (ci := 0) (v := .ref (a 6)) (C := R_Dy) (T := T_Dy) (N := 9) hx hb hts in_Dy hown hK hP 0 rfl rfl 5 (by decide) (hts _ k_61) (fun _ h9 => h9) rfl d_Dy_tellPage_23 ?_
    refine lv_iload_n hx hb d_Dy_tellPage_26 rfl (lv_at hl 1 rfl) ?_
    refine lv_iload hx hb d_Dy_tellPage_27 (lv_at hl 4 rfl) ?_
    obtain ⟨g_29, hf⟩ := og_e hf
    obtain ⟨r_29, er_29, hf⟩ := nx_e hf
    refine va_iast hx hb hK hP hD hS 6 0 rfl rfl g_29 d_Dy_tellPage_29 (fun H locs hP hD hS => ?_)
    rw [← er_29] at hP hD
    have hP : va_P G.1 vwCl (W_Dy G a (v.1, v.2.1, v.2.2.1, r_14, r_21, r_29, v.2.2.2.2.2.2.1, v.2.2.2.2.2.2.2.1, v.2.2.2.2.2.2.2.2)) H := hP
    have hD : va_D A (W_Dy G a (v.1, v.2.1, v.2.2.1, r_14, r_21, r_29, v.2.2.2.2.2.2.1, v.2.2.2.2.2.2.2.1, v.2.2.2.2.2.2.2.2)) := hD
    refine lv_aload_n hx hb d_Dy_tellPage_30 rfl (lv_at hl 0 rfl) ?_
    refine va_get (D := G.1) (ci := 0) (v := .ref (a 7)) (C := R_Dy) (T := T_Dy) (N := 9) hx hb hts in_Dy hown hK hP 0 rfl rfl 6 (by decide) (hts _ k_62) (fun _ h9 => h9) rfl d_Dy_tellPage_31 ?_
    refine lv_iload_n hx hb d_Dy_tellPage_34 rfl (lv_at hl 1 rfl) ?_
    refine lv_iload hx hb d_Dy_tellPage_35 (lv_at hl 5 rfl) ?_
    obtain ⟨g_37, hf⟩ := og_e hf
    obtain ⟨r_37, er_37, hf⟩ := nx_e hf
    refine va_iast hx hb hK hP hD hS 7 0 rfl rfl g_37 d_Dy_tellPage_37 (fun H locs hP hD hS => ?_)
    rw [← er_37] at hP hD
    have hP : va_P G.1 vwCl (W_Dy G a (v.1, v.2.1, v.2.2.1, r_14, r_21, r_29, r_37, v.2.2.2.2.2.2.2.1, v.2.2.2.2.2.2.2.2)) H := hP
    have hD : va_D A (W_Dy G a (v.1, v.2.1, v.2.2.1, r_14, r_21, r_29, r_37, v.2.2.2.2.2.2.2.1, v.2.2.2.2.2.2.2.2)) := hD
    cases hf
    exact kV hx hb hr hlk hP hD hS d_Dy_tellPage_38
set_option maxHeartbeats 4000000 in
set_option maxRecDepth 100000 in
theorem t_Dy_saveUpTo (l : Launch) (G : GG) (a : Nat → Nat) (l1 : Int32) (v : V_Dy) (q : V_Dy) (hf : f_Dy_saveUpTo l1 v = some q) : MV l G y_Dy_saveUpTo c_Dy_saveUpTo 2 (rmk 1 14) (W_Dy G a v) [.ref (a 0), .int l1] (W_Dy G a q) := by
  refine ofV "FloodDiary$Diary" (by decide +kernel) rfl (Nat.le_of_ble_eq_true rfl) (fun p e s m args below meth c A ls hx hb hr hml hown hts hlk hK hN hA hP hD hS hl => ?_)
  have hl : lv_has ls 2 [(0, .ref (a 0)), (1, .int l1)] := hl
  unfold f_Dy_saveUpTo at hf
  refine lv_aload_n hx hb d_Dy_saveUpTo_0 rfl (lv_at hl 0 rfl) ?_
  refine lv_aload_n hx hb d_Dy_saveUpTo_1 rfl (lv_at hl 0 rfl) ?_
  refine va_get (D := G.1) (ci := 0) (v := .int v.2.2.2.2.2.2.2.2) (C := R_Dy) (T := T_Dy) (N := 9) hx hb hts in_Dy hown hK hP 0 rfl rfl 8 (by decide) (hts _ k_67) (fun _ h9 => h9) rfl d_Dy_saveUpTo_2 ?_
  refine lv_iload_n hx hb d_Dy_saveUpTo_5 rfl (lv_at hl 1 rfl) ?_
  refine va_mmax (own := "FloodDiary$Diary") (index := 50) hx hb (hml.trans hl.1.symm) hown (hts _ k_370) (hts _ k_371) (hts _ k_12) (hts _ k_372) (Nat.le_of_ble_eq_true rfl) (Nat.le_of_ble_eq_true rfl) (Nat.zero_le _) (Nat.zero_le _) d_Dy_saveUpTo_6 ?_
  refine va_put (D := G.1) (ci := 0) (v := .int (if v.2.2.2.2.2.2.2.2 < l1 then l1 else v.2.2.2.2.2.2.2.2)) (ty := .int) (C := R_Dy) (T := T_Dy) (N := 9) hx hb hts in_Dy ty_Dy ty_Dy_ok nm_Dy hown hK hP hD hS 0 rfl rfl 8 (by decide) (hts _ k_67) (fun _ h9 => h9) rfl (ty_Dy_ok 8 (by decide)) rfl rfl (Nat.le_of_ble_eq_true rfl) d_Dy_saveUpTo_9 (fun H locs hP hD hS => ?_)
  have hP : va_P G.1 vwCl (W_Dy G a (v.1, v.2.1, v.2.2.1, v.2.2.2.1, v.2.2.2.2.1, v.2.2.2.2.2.1, v.2.2.2.2.2.2.1, v.2.2.2.2.2.2.2.1, (if v.2.2.2.2.2.2.2.2 < l1 then l1 else v.2.2.2.2.2.2.2.2))) H := hP
  have hD : va_D A (W_Dy G a (v.1, v.2.1, v.2.2.1, v.2.2.2.1, v.2.2.2.2.1, v.2.2.2.2.2.1, v.2.2.2.2.2.2.1, v.2.2.2.2.2.2.2.1, (if v.2.2.2.2.2.2.2.2 < l1 then l1 else v.2.2.2.2.2.2.2.2))) := hD
  cases hf
  exact kV hx hb hr hlk hP hD hS d_Dy_saveUpTo_12
set_option maxHeartbeats 4000000 in
set_option maxRecDepth 100000 in
theorem t_Dy_lose (l : Launch) (G : GG) (a : Nat → Nat) (l1 : Int32) (v : V_Dy) (q : V_Dy) (hf : f_Dy_lose l1 v = some q) : MV l G y_Dy_lose c_Dy_lose 2 (rmk 1 14) (W_Dy G a v) [.ref (a 0), .int l1] (W_Dy G a q) := by
  refine ofV "FloodDiary$Diary" (by decide +kernel) rfl (Nat.le_of_ble_eq_true rfl) (fun p e s m args below meth c A ls hx hb hr hml hown hts hlk hK hN hA hP hD hS hl => ?_)
  have hl : lv_has ls 2 [(0, .ref (a 0)), (1, .int l1)] := hl
  unfold f_Dy_lose at hf
  refine lv_aload_n hx hb d_Dy_lose_0 rfl (lv_at hl 0 rfl) ?_
  refine lv_iconst (v := (0 : Int32)) hx hb d_Dy_lose_1 (by decide) ?_
  refine lv_aload_n hx hb d_Dy_lose_2 rfl (lv_at hl 0 rfl) ?_
  refine va_get (D := G.1) (ci := 0) (v := .int v.2.2.2.2.2.2.2.1) (C := R_Dy) (T := T_Dy) (N := 9) hx hb hts in_Dy hown hK hP 0 rfl rfl 7 (by decide) (hts _ k_63) (fun _ h9 => h9) rfl d_Dy_lose_3 ?_
  refine lv_iload_n hx hb d_Dy_lose_6 rfl (lv_at hl 1 rfl) ?_
  refine lv_isub hx hb d_Dy_lose_7 ?_
  refine va_mmax (own := "FloodDiary$Diary") (index := 50) hx hb (hml.trans hl.1.symm) hown (hts _ k_370) (hts _ k_371) (hts _ k_12) (hts _ k_372) (Nat.le_of_ble_eq_true rfl) (Nat.le_of_ble_eq_true rfl) (Nat.zero_le _) (Nat.zero_le _) d_Dy_lose_8 ?_
  refine va_put (D := G.1) (ci := 0) (v := .int (if (0 : Int32) < (v.2.2.2.2.2.2.2.1 - l1) then (v.2.2.2.2.2.2.2.1 - l1) else (0 : Int32))) (ty := .int) (C := R_Dy) (T := T_Dy) (N := 9) hx hb hts in_Dy ty_Dy ty_Dy_ok nm_Dy hown hK hP hD hS 0 rfl rfl 7 (by decide) (hts _ k_63) (fun _ h9 => h9) rfl (ty_Dy_ok 7 (by decide)) rfl rfl (Nat.le_of_ble_eq_true rfl) d_Dy_lose_11 (fun H locs hP hD hS => ?_)
  have hP : va_P G.1 vwCl (W_Dy G a (v.1, v.2.1, v.2.2.1, v.2.2.2.1, v.2.2.2.2.1, v.2.2.2.2.2.1, v.2.2.2.2.2.2.1, (if (0 : Int32) < (v.2.2.2.2.2.2.2.1 - l1) then (v.2.2.2.2.2.2.2.1 - l1) else (0 : Int32)), v.2.2.2.2.2.2.2.2)) H := hP
  have hD : va_D A (W_Dy G a (v.1, v.2.1, v.2.2.1, v.2.2.2.1, v.2.2.2.2.1, v.2.2.2.2.2.1, v.2.2.2.2.2.2.1, (if (0 : Int32) < (v.2.2.2.2.2.2.2.1 - l1) then (v.2.2.2.2.2.2.2.1 - l1) else (0 : Int32)), v.2.2.2.2.2.2.2.2)) := hD
  refine lv_aload_n hx hb d_Dy_lose_14 rfl (lv_at hl 0 rfl) ?_
  refine lv_aload_n hx hb d_Dy_lose_15 rfl (lv_at hl 0 rfl) ?_
  refine va_get (D := G.1) (ci := 0) (v := .int v.2.2.2.2.2.2.2.2) (C := R_Dy) (T := T_Dy) (N := 9) hx hb hts in_Dy hown hK hP 0 rfl rfl 8 (by decide) (hts _ k_67) (fun _ h9 => h9) rfl d_Dy_lose_16 ?_
  refine lv_aload_n hx hb d_Dy_lose_19 rfl (lv_at hl 0 rfl) ?_
  refine va_get (D := G.1) (ci := 0) (v := .int (if (0 : Int32) < (v.2.2.2.2.2.2.2.1 - l1) then (v.2.2.2.2.2.2.2.1 - l1) else (0 : Int32))) (C := R_Dy) (T := T_Dy) (N := 9) hx hb hts in_Dy hown hK hP 0 rfl rfl 7 (by decide) (hts _ k_63) (fun _ h9 => h9) rfl d_Dy_lose_20 ?_
  refine va_mmin (own := "FloodDiary$Diary") (index := 56) hx hb (hml.trans hl.1.symm) hown (hts _ k_455) (hts _ k_456) (hts _ k_12) (hts _ k_457) (Nat.le_of_ble_eq_true rfl) (Nat.le_of_ble_eq_true rfl) (Nat.zero_le _) (Nat.zero_le _) d_Dy_lose_23 ?_
  refine va_put (D := G.1) (ci := 0) (v := .int (if (if (0 : Int32) < (v.2.2.2.2.2.2.2.1 - l1) then (v.2.2.2.2.2.2.2.1 - l1) else (0 : Int32)) < v.2.2.2.2.2.2.2.2 then (if (0 : Int32) < (v.2.2.2.2.2.2.2.1 - l1) then (v.2.2.2.2.2.2.2.1 - l1) else (0 : Int32)) else v.2.2.2.2.2.2.2.2)) (ty := .int) (C := R_Dy) (T := T_Dy) (N := 9) hx hb hts in_Dy ty_Dy ty_Dy_ok nm_Dy hown hK hP hD hS 0 rfl rfl 8 (by decide) (hts _ k_67) (fun _ h9 => h9) rfl (ty_Dy_ok 8 (by decide)) rfl rfl (Nat.le_of_ble_eq_true rfl) d_Dy_lose_26 (fun H locs hP hD hS => ?_)
  have hP : va_P G.1 vwCl (W_Dy G a (v.1, v.2.1, v.2.2.1, v.2.2.2.1, v.2.2.2.2.1, v.2.2.2.2.2.1, v.2.2.2.2.2.2.1, (if (0 : Int32) < (v.2.2.2.2.2.2.2.1 - l1) then (v.2.2.2.2.2.2.2.1 - l1) else (0 : Int32)), (if (if (0 : Int32) < (v.2.2.2.2.2.2.2.1 - l1) then (v.2.2.2.2.2.2.2.1 - l1) else (0 : Int32)) < v.2.2.2.2.2.2.2.2 then (if (0 : Int32) < (v.2.2.2.2.2.2.2.1 - l1) then (v.2.2.2.2.2.2.2.1 - l1) else (0 : Int32)) else v.2.2.2.2.2.2.2.2))) H := hP
  have hD : va_D A (W_Dy G a (v.1, v.2.1, v.2.2.1, v.2.2.2.1, v.2.2.2.2.1, v.2.2.2.2.2.1, v.2.2.2.2.2.2.1, (if (0 : Int32) < (v.2.2.2.2.2.2.2.1 - l1) then (v.2.2.2.2.2.2.2.1 - l1) else (0 : Int32)), (if (if (0 : Int32) < (v.2.2.2.2.2.2.2.1 - l1) then (v.2.2.2.2.2.2.2.1 - l1) else (0 : Int32)) < v.2.2.2.2.2.2.2.2 then (if (0 : Int32) < (v.2.2.2.2.2.2.2.1 - l1) then (v.2.2.2.2.2.2.2.1 - l1) else (0 : Int32)) else v.2.2.2.2.2.2.2.2))) := hD
  cases hf
  exact kV hx hb hr hlk hP hD hS d_Dy_lose_29
set_option maxHeartbeats 4000000 in
set_option maxRecDepth 100000 in
theorem t_Dy_kindOf (l : Launch) (G : GG) (a : Nat → Nat) (l1 : Int32) (v : V_Dy) (q : Int32) (hf : f_Dy_kindOf l1 v = some q) : MI l G y_Dy_kindOf c_Dy_kindOf 2 (some .int) (rmk 1 21) (W_Dy G a v) [.ref (a 0), .int l1] (W_Dy G a v) (q) := by
  refine ofI "FloodDiary$Diary" (by decide +kernel) rfl (Nat.le_of_ble_eq_true rfl) (fun p e s m args below meth c A ls hx hb hr hml hown hts hlk hK hN hA hP hD hS hl => ?_)
  have hl : lv_has ls 2 [(0, .ref (a 0)), (1, .int l1)] := hl
  unfold f_Dy_kindOf at hf
  refine lv_aload_n hx hb d_Dy_kindOf_0 rfl (lv_at hl 0 rfl) ?_
  refine lv_iload_n hx hb d_Dy_kindOf_1 rfl (lv_at hl 1 rfl) ?_
  obtain ⟨q_2, hc_2, hf⟩ := oc_e hf
  refine kcV (cc := c_Dy_kindOf) (own := "FloodDiary$Diary") (index := 46) (wc := W_Dy G a v) (wr := ([] : va_W)) (wc' := W_Dy G a v) (ws' := W_Dy G a v) hx hb hml hown hts hK hN hA hP hD hS (t_Dy_has l G a l1 v q_2 hc_2) m_Dy_has k_353 ⟨Nat.le_of_ble_eq_true rfl, Nat.le_of_ble_eq_true rfl⟩ (pm_0 (W_Dy G a v)) (pm_0 (W_Dy G a v)).symm 0 0 rfl rfl rfl rfl rfl (Nat.le_of_ble_eq_true rfl) hl.1 d_Dy_kindOf_2 ⟨Nat.zero_le _, Nat.zero_le _⟩ (fun H locs hP hD hS => ?_)
  refine lv_if_eq (tgt := 17) hx hb d_Dy_kindOf_5 (by decide) (fun c_5 => ?_) (fun c_5 => ?_)
  · replace hf := ob_et c_5 hf
    refine lv_bipush (v := (-6 : Int32)) hx hb d_Dy_kindOf_17 (by decide) ?_
    cases hf
    exact kI hx hb hr hlk hP hD hS d_Dy_kindOf_19
  · replace hf := ob_ef c_5 hf
    refine lv_aload_n hx hb d_Dy_kindOf_8 rfl (lv_at hl 0 rfl) ?_
    refine va_get (D := G.1) (ci := 0) (v := .ref (a 1)) (C := R_Dy) (T := T_Dy) (N := 9) hx hb hts in_Dy hown hK hP 0 rfl rfl 0 (by decide) (hts _ k_56) (fun _ h9 => h9) rfl d_Dy_kindOf_9 ?_
    refine lv_iload_n hx hb d_Dy_kindOf_12 rfl (lv_at hl 1 rfl) ?_
    obtain ⟨g_13, hf⟩ := og_e hf
    refine va_iald hx hb hK hP 1 0 rfl rfl g_13 d_Dy_kindOf_13 ?_
    refine lv_goto (tgt := 19) hx hb d_Dy_kindOf_14 (by decide) ?_
    cases hf
    exact kI hx hb hr hlk hP hD hS d_Dy_kindOf_19
set_option maxHeartbeats 4000000 in
set_option maxRecDepth 100000 in
theorem t_Dy_workOf (l : Launch) (G : GG) (a : Nat → Nat) (l1 : Int32) (v : V_Dy) (q : Int32) (hf : f_Dy_workOf l1 v = some q) : MI l G y_Dy_workOf c_Dy_workOf 2 (some .int) (rmk 1 21) (W_Dy G a v) [.ref (a 0), .int l1] (W_Dy G a v) (q) := by
  refine ofI "FloodDiary$Diary" (by decide +kernel) rfl (Nat.le_of_ble_eq_true rfl) (fun p e s m args below meth c A ls hx hb hr hml hown hts hlk hK hN hA hP hD hS hl => ?_)
  have hl : lv_has ls 2 [(0, .ref (a 0)), (1, .int l1)] := hl
  unfold f_Dy_workOf at hf
  refine lv_aload_n hx hb d_Dy_workOf_0 rfl (lv_at hl 0 rfl) ?_
  refine lv_iload_n hx hb d_Dy_workOf_1 rfl (lv_at hl 1 rfl) ?_
  obtain ⟨q_2, hc_2, hf⟩ := oc_e hf
  refine kcV (cc := c_Dy_workOf) (own := "FloodDiary$Diary") (index := 46) (wc := W_Dy G a v) (wr := ([] : va_W)) (wc' := W_Dy G a v) (ws' := W_Dy G a v) hx hb hml hown hts hK hN hA hP hD hS (t_Dy_has l G a l1 v q_2 hc_2) m_Dy_has k_353 ⟨Nat.le_of_ble_eq_true rfl, Nat.le_of_ble_eq_true rfl⟩ (pm_0 (W_Dy G a v)) (pm_0 (W_Dy G a v)).symm 0 0 rfl rfl rfl rfl rfl (Nat.le_of_ble_eq_true rfl) hl.1 d_Dy_workOf_2 ⟨Nat.zero_le _, Nat.zero_le _⟩ (fun H locs hP hD hS => ?_)
  refine lv_if_eq (tgt := 17) hx hb d_Dy_workOf_5 (by decide) (fun c_5 => ?_) (fun c_5 => ?_)
  · replace hf := ob_et c_5 hf
    refine lv_bipush (v := (-6 : Int32)) hx hb d_Dy_workOf_17 (by decide) ?_
    cases hf
    exact kI hx hb hr hlk hP hD hS d_Dy_workOf_19
  · replace hf := ob_ef c_5 hf
    refine lv_aload_n hx hb d_Dy_workOf_8 rfl (lv_at hl 0 rfl) ?_
    refine va_get (D := G.1) (ci := 0) (v := .ref (a 2)) (C := R_Dy) (T := T_Dy) (N := 9) hx hb hts in_Dy hown hK hP 0 rfl rfl 1 (by decide) (hts _ k_57) (fun _ h9 => h9) rfl d_Dy_workOf_9 ?_
    refine lv_iload_n hx hb d_Dy_workOf_12 rfl (lv_at hl 1 rfl) ?_
    obtain ⟨g_13, hf⟩ := og_e hf
    refine va_iald hx hb hK hP 2 0 rfl rfl g_13 d_Dy_workOf_13 ?_
    refine lv_goto (tgt := 19) hx hb d_Dy_workOf_14 (by decide) ?_
    cases hf
    exact kI hx hb hr hlk hP hD hS d_Dy_workOf_19
set_option maxHeartbeats 4000000 in
set_option maxRecDepth 100000 in
theorem t_Dy_earlierOf (l : Launch) (G : GG) (a : Nat → Nat) (l1 : Int32) (v : V_Dy) (q : Int32) (hf : f_Dy_earlierOf l1 v = some q) : MI l G y_Dy_earlierOf c_Dy_earlierOf 2 (some .int) (rmk 1 21) (W_Dy G a v) [.ref (a 0), .int l1] (W_Dy G a v) (q) := by
  refine ofI "FloodDiary$Diary" (by decide +kernel) rfl (Nat.le_of_ble_eq_true rfl) (fun p e s m args below meth c A ls hx hb hr hml hown hts hlk hK hN hA hP hD hS hl => ?_)
  have hl : lv_has ls 2 [(0, .ref (a 0)), (1, .int l1)] := hl
  unfold f_Dy_earlierOf at hf
  refine lv_aload_n hx hb d_Dy_earlierOf_0 rfl (lv_at hl 0 rfl) ?_
  refine lv_iload_n hx hb d_Dy_earlierOf_1 rfl (lv_at hl 1 rfl) ?_
  obtain ⟨q_2, hc_2, hf⟩ := oc_e hf
  refine kcV (cc := c_Dy_earlierOf) (own := "FloodDiary$Diary") (index := 46) (wc := W_Dy G a v) (wr := ([] : va_W)) (wc' := W_Dy G a v) (ws' := W_Dy G a v) hx hb hml hown hts hK hN hA hP hD hS (t_Dy_has l G a l1 v q_2 hc_2) m_Dy_has k_353 ⟨Nat.le_of_ble_eq_true rfl, Nat.le_of_ble_eq_true rfl⟩ (pm_0 (W_Dy G a v)) (pm_0 (W_Dy G a v)).symm 0 0 rfl rfl rfl rfl rfl (Nat.le_of_ble_eq_true rfl) hl.1 d_Dy_earlierOf_2 ⟨Nat.zero_le _, Nat.zero_le _⟩ (fun H locs hP hD hS => ?_)
  refine lv_if_eq (tgt := 17) hx hb d_Dy_earlierOf_5 (by decide) (fun c_5 => ?_) (fun c_5 => ?_)
  · replace hf := ob_et c_5 hf
    refine lv_iconst (v := (0 : Int32)) hx hb d_Dy_earlierOf_17 (by decide) ?_
    cases hf
    exact kI hx hb hr hlk hP hD hS d_Dy_earlierOf_18
  · replace hf := ob_ef c_5 hf
    refine lv_aload_n hx hb d_Dy_earlierOf_8 rfl (lv_at hl 0 rfl) ?_
    refine va_get (D := G.1) (ci := 0) (v := .ref (a 3)) (C := R_Dy) (T := T_Dy) (N := 9) hx hb hts in_Dy hown hK hP 0 rfl rfl 2 (by decide) (hts _ k_58) (fun _ h9 => h9) rfl d_Dy_earlierOf_9 ?_
    refine lv_iload_n hx hb d_Dy_earlierOf_12 rfl (lv_at hl 1 rfl) ?_
    obtain ⟨g_13, hf⟩ := og_e hf
    refine va_iald hx hb hK hP 3 0 rfl rfl g_13 d_Dy_earlierOf_13 ?_
    refine lv_goto (tgt := 18) hx hb d_Dy_earlierOf_14 (by decide) ?_
    cases hf
    exact kI hx hb hr hlk hP hD hS d_Dy_earlierOf_18
set_option maxHeartbeats 4000000 in
set_option maxRecDepth 100000 in
theorem t_Dy_pageOf (l : Launch) (G : GG) (a : Nat → Nat) (l1 : Int32) (v : V_Dy) (q : Int32) (hf : f_Dy_pageOf l1 v = some q) : MI l G y_Dy_pageOf c_Dy_pageOf 2 (some .int) (rmk 1 21) (W_Dy G a v) [.ref (a 0), .int l1] (W_Dy G a v) (q) := by
  refine ofI "FloodDiary$Diary" (by decide +kernel) rfl (Nat.le_of_ble_eq_true rfl) (fun p e s m args below meth c A ls hx hb hr hml hown hts hlk hK hN hA hP hD hS hl => ?_)
  have hl : lv_has ls 2 [(0, .ref (a 0)), (1, .int l1)] := hl
  unfold f_Dy_pageOf at hf
  refine lv_aload_n hx hb d_Dy_pageOf_0 rfl (lv_at hl 0 rfl) ?_
  refine lv_iload_n hx hb d_Dy_pageOf_1 rfl (lv_at hl 1 rfl) ?_
  obtain ⟨q_2, hc_2, hf⟩ := oc_e hf
  refine kcV (cc := c_Dy_pageOf) (own := "FloodDiary$Diary") (index := 46) (wc := W_Dy G a v) (wr := ([] : va_W)) (wc' := W_Dy G a v) (ws' := W_Dy G a v) hx hb hml hown hts hK hN hA hP hD hS (t_Dy_has l G a l1 v q_2 hc_2) m_Dy_has k_353 ⟨Nat.le_of_ble_eq_true rfl, Nat.le_of_ble_eq_true rfl⟩ (pm_0 (W_Dy G a v)) (pm_0 (W_Dy G a v)).symm 0 0 rfl rfl rfl rfl rfl (Nat.le_of_ble_eq_true rfl) hl.1 d_Dy_pageOf_2 ⟨Nat.zero_le _, Nat.zero_le _⟩ (fun H locs hP hD hS => ?_)
  refine lv_if_eq (tgt := 17) hx hb d_Dy_pageOf_5 (by decide) (fun c_5 => ?_) (fun c_5 => ?_)
  · replace hf := ob_et c_5 hf
    refine lv_bipush (v := (-6 : Int32)) hx hb d_Dy_pageOf_17 (by decide) ?_
    cases hf
    exact kI hx hb hr hlk hP hD hS d_Dy_pageOf_19
  · replace hf := ob_ef c_5 hf
    refine lv_aload_n hx hb d_Dy_pageOf_8 rfl (lv_at hl 0 rfl) ?_
    refine va_get (D := G.1) (ci := 0) (v := .ref (a 4)) (C := R_Dy) (T := T_Dy) (N := 9) hx hb hts in_Dy hown hK hP 0 rfl rfl 3 (by decide) (hts _ k_59) (fun _ h9 => h9) rfl d_Dy_pageOf_9 ?_
    refine lv_iload_n hx hb d_Dy_pageOf_12 rfl (lv_at hl 1 rfl) ?_
    obtain ⟨g_13, hf⟩ := og_e hf
    refine va_iald hx hb hK hP 4 0 rfl rfl g_13 d_Dy_pageOf_13 ?_
    refine lv_goto (tgt := 19) hx hb d_Dy_pageOf_14 (by decide) ?_
    cases hf
    exact kI hx hb hr hlk hP hD hS d_Dy_pageOf_19
set_option maxHeartbeats 4000000 in
set_option maxRecDepth 100000 in
theorem t_Dy_beforeOf (l : Launch) (G : GG) (a : Nat → Nat) (l1 : Int32) (v : V_Dy) (q : Int32) (hf : f_Dy_beforeOf l1 v = some q) : MI l G y_Dy_beforeOf c_Dy_beforeOf 2 (some .int) (rmk 1 21) (W_Dy G a v) [.ref (a 0), .int l1] (W_Dy G a v) (q) := by
  refine ofI "FloodDiary$Diary" (by decide +kernel) rfl (Nat.le_of_ble_eq_true rfl) (fun p e s m args below meth c A ls hx hb hr hml hown hts hlk hK hN hA hP hD hS hl => ?_)
  have hl : lv_has ls 2 [(0, .ref (a 0)), (1, .int l1)] := hl
  unfold f_Dy_beforeOf at hf
  refine lv_aload_n hx hb d_Dy_beforeOf_0 rfl (lv_at hl 0 rfl) ?_
  refine lv_iload_n hx hb d_Dy_beforeOf_1 rfl (lv_at hl 1 rfl) ?_
  obtain ⟨q_2, hc_2, hf⟩ := oc_e hf
  refine kcV (cc := c_Dy_beforeOf) (own := "FloodDiary$Diary") (index := 46) (wc := W_Dy G a v) (wr := ([] : va_W)) (wc' := W_Dy G a v) (ws' := W_Dy G a v) hx hb hml hown hts hK hN hA hP hD hS (t_Dy_has l G a l1 v q_2 hc_2) m_Dy_has k_353 ⟨Nat.le_of_ble_eq_true rfl, Nat.le_of_ble_eq_true rfl⟩ (pm_0 (W_Dy G a v)) (pm_0 (W_Dy G a v)).symm 0 0 rfl rfl rfl rfl rfl (Nat.le_of_ble_eq_true rfl) hl.1 d_Dy_beforeOf_2 ⟨Nat.zero_le _, Nat.zero_le _⟩ (fun H locs hP hD hS => ?_)
  refine lv_if_eq (tgt := 17) hx hb d_Dy_beforeOf_5 (by decide) (fun c_5 => ?_) (fun c_5 => ?_)
  · replace hf := ob_et c_5 hf
    refine lv_bipush (v := (-6 : Int32)) hx hb d_Dy_beforeOf_17 (by decide) ?_
    cases hf
    exact kI hx hb hr hlk hP hD hS d_Dy_beforeOf_19
  · replace hf := ob_ef c_5 hf
    refine lv_aload_n hx hb d_Dy_beforeOf_8 rfl (lv_at hl 0 rfl) ?_
    refine va_get (D := G.1) (ci := 0) (v := .ref (a 5)) (C := R_Dy) (T := T_Dy) (N := 9) hx hb hts in_Dy hown hK hP 0 rfl rfl 4 (by decide) (hts _ k_60) (fun _ h9 => h9) rfl d_Dy_beforeOf_9 ?_
    refine lv_iload_n hx hb d_Dy_beforeOf_12 rfl (lv_at hl 1 rfl) ?_
    obtain ⟨g_13, hf⟩ := og_e hf
    refine va_iald hx hb hK hP 5 0 rfl rfl g_13 d_Dy_beforeOf_13 ?_
    refine lv_goto (tgt := 19) hx hb d_Dy_beforeOf_14 (by decide) ?_
    cases hf
    exact kI hx hb hr hlk hP hD hS d_Dy_beforeOf_19
set_option maxHeartbeats 4000000 in
set_option maxRecDepth 100000 in
theorem t_Dy_thenOf (l : Launch) (G : GG) (a : Nat → Nat) (l1 : Int32) (v : V_Dy) (q : Int32) (hf : f_Dy_thenOf l1 v = some q) : MI l G y_Dy_thenOf c_Dy_thenOf 2 (some .int) (rmk 1 21) (W_Dy G a v) [.ref (a 0), .int l1] (W_Dy G a v) (q) := by
  refine ofI "FloodDiary$Diary" (by decide +kernel) rfl (Nat.le_of_ble_eq_true rfl) (fun p e s m args below meth c A ls hx hb hr hml hown hts hlk hK hN hA hP hD hS hl => ?_)
  have hl : lv_has ls 2 [(0, .ref (a 0)), (1, .int l1)] := hl
  unfold f_Dy_thenOf at hf
  refine lv_aload_n hx hb d_Dy_thenOf_0 rfl (lv_at hl 0 rfl) ?_
  refine lv_iload_n hx hb d_Dy_thenOf_1 rfl (lv_at hl 1 rfl) ?_
  obtain ⟨q_2, hc_2, hf⟩ := oc_e hf
  refine kcV (cc := c_Dy_thenOf) (own := "FloodDiary$Diary") (index := 46) (wc := W_Dy G a v) (wr := ([] : va_W)) (wc' := W_Dy G a v) (ws' := W_Dy G a v) hx hb hml hown hts hK hN hA hP hD hS (t_Dy_has l G a l1 v q_2 hc_2) m_Dy_has k_353 ⟨Nat.le_of_ble_eq_true rfl, Nat.le_of_ble_eq_true rfl⟩ (pm_0 (W_Dy G a v)) (pm_0 (W_Dy G a v)).symm 0 0 rfl rfl rfl rfl rfl (Nat.le_of_ble_eq_true rfl) hl.1 d_Dy_thenOf_2 ⟨Nat.zero_le _, Nat.zero_le _⟩ (fun H locs hP hD hS => ?_)
  refine lv_if_eq (tgt := 17) hx hb d_Dy_thenOf_5 (by decide) (fun c_5 => ?_) (fun c_5 => ?_)
  · replace hf := ob_et c_5 hf
    refine lv_bipush (v := (-6 : Int32)) hx hb d_Dy_thenOf_17 (by decide) ?_
    cases hf
    exact kI hx hb hr hlk hP hD hS d_Dy_thenOf_19
  · replace hf := ob_ef c_5 hf
    refine lv_aload_n hx hb d_Dy_thenOf_8 rfl (lv_at hl 0 rfl) ?_
    refine va_get (D := G.1) (ci := 0) (v := .ref (a 6)) (C := R_Dy) (T := T_Dy) (N := 9) hx hb hts in_Dy hown hK hP 0 rfl rfl 5 (by decide) (hts _ k_61) (fun _ h9 => h9) rfl d_Dy_thenOf_9 ?_
    refine lv_iload_n hx hb d_Dy_thenOf_12 rfl (lv_at hl 1 rfl) ?_
    obtain ⟨g_13, hf⟩ := og_e hf
    refine va_iald hx hb hK hP 6 0 rfl rfl g_13 d_Dy_thenOf_13 ?_
    refine lv_goto (tgt := 19) hx hb d_Dy_thenOf_14 (by decide) ?_
    cases hf
    exact kI hx hb hr hlk hP hD hS d_Dy_thenOf_19
set_option maxHeartbeats 4000000 in
set_option maxRecDepth 100000 in
theorem t_Dy_nextOf (l : Launch) (G : GG) (a : Nat → Nat) (l1 : Int32) (v : V_Dy) (q : Int32) (hf : f_Dy_nextOf l1 v = some q) : MI l G y_Dy_nextOf c_Dy_nextOf 2 (some .int) (rmk 1 21) (W_Dy G a v) [.ref (a 0), .int l1] (W_Dy G a v) (q) := by
  refine ofI "FloodDiary$Diary" (by decide +kernel) rfl (Nat.le_of_ble_eq_true rfl) (fun p e s m args below meth c A ls hx hb hr hml hown hts hlk hK hN hA hP hD hS hl => ?_)
  have hl : lv_has ls 2 [(0, .ref (a 0)), (1, .int l1)] := hl
  unfold f_Dy_nextOf at hf
  refine lv_aload_n hx hb d_Dy_nextOf_0 rfl (lv_at hl 0 rfl) ?_
  refine lv_iload_n hx hb d_Dy_nextOf_1 rfl (lv_at hl 1 rfl) ?_
  obtain ⟨q_2, hc_2, hf⟩ := oc_e hf
  refine kcV (cc := c_Dy_nextOf) (own := "FloodDiary$Diary") (index := 46) (wc := W_Dy G a v) (wr := ([] : va_W)) (wc' := W_Dy G a v) (ws' := W_Dy G a v) hx hb hml hown hts hK hN hA hP hD hS (t_Dy_has l G a l1 v q_2 hc_2) m_Dy_has k_353 ⟨Nat.le_of_ble_eq_true rfl, Nat.le_of_ble_eq_true rfl⟩ (pm_0 (W_Dy G a v)) (pm_0 (W_Dy G a v)).symm 0 0 rfl rfl rfl rfl rfl (Nat.le_of_ble_eq_true rfl) hl.1 d_Dy_nextOf_2 ⟨Nat.zero_le _, Nat.zero_le _⟩ (fun H locs hP hD hS => ?_)
  refine lv_if_eq (tgt := 17) hx hb d_Dy_nextOf_5 (by decide) (fun c_5 => ?_) (fun c_5 => ?_)
  · replace hf := ob_et c_5 hf
    refine lv_bipush (v := (-6 : Int32)) hx hb d_Dy_nextOf_17 (by decide) ?_
    cases hf
    exact kI hx hb hr hlk hP hD hS d_Dy_nextOf_19
  · replace hf := ob_ef c_5 hf
    refine lv_aload_n hx hb d_Dy_nextOf_8 rfl (lv_at hl 0 rfl) ?_
    refine va_get (D := G.1) (ci := 0) (v := .ref (a 7)) (C := R_Dy) (T := T_Dy) (N := 9) hx hb hts in_Dy hown hK hP 0 rfl rfl 6 (by decide) (hts _ k_62) (fun _ h9 => h9) rfl d_Dy_nextOf_9 ?_
    refine lv_iload_n hx hb d_Dy_nextOf_12 rfl (lv_at hl 1 rfl) ?_
    obtain ⟨g_13, hf⟩ := og_e hf
    refine va_iald hx hb hK hP 7 0 rfl rfl g_13 d_Dy_nextOf_13 ?_
    refine lv_goto (tgt := 19) hx hb d_Dy_nextOf_14 (by decide) ?_
    cases hf
    exact kI hx hb hr hlk hP hD hS d_Dy_nextOf_19
set_option maxHeartbeats 4000000 in
set_option maxRecDepth 100000 in
theorem t_Dy_about (l : Launch) (G : GG) (a : Nat → Nat) (l1 : Int32) (l2 : Int32) (v : V_Dy) (q : Int32) (hf : f_Dy_about l1 l2 v = some q) : MI l G y_Dy_about c_Dy_about 3 (some .int) (rmk 2 42) (W_Dy G a v) [.ref (a 0), .int l1, .int l2] (W_Dy G a v) (q) := by
  refine ofI "FloodDiary$Diary" (by decide +kernel) rfl (Nat.le_of_ble_eq_true rfl) (fun p e s m args below meth c A ls hx hb hr hml hown hts hlk hK hN hA hP hD hS hl => ?_)
  have hl : lv_has ls 3 [(0, .ref (a 0)), (1, .int l1), (2, .int l2)] := hl
  unfold f_Dy_about at hf
  refine lv_aload_n hx hb d_Dy_about_0 rfl (lv_at hl 0 rfl) ?_
  refine lv_iload_n hx hb d_Dy_about_1 rfl (lv_at hl 1 rfl) ?_
  obtain ⟨q_2, hc_2, hf⟩ := oc_e hf
  refine kcV (cc := c_Dy_about) (own := "FloodDiary$Diary") (index := 46) (wc := W_Dy G a v) (wr := ([] : va_W)) (wc' := W_Dy G a v) (ws' := W_Dy G a v) hx hb hml hown hts hK hN hA hP hD hS (t_Dy_has l G a l1 v q_2 hc_2) m_Dy_has k_353 ⟨Nat.le_of_ble_eq_true rfl, Nat.le_of_ble_eq_true rfl⟩ (pm_0 (W_Dy G a v)) (pm_0 (W_Dy G a v)).symm 0 0 rfl rfl rfl rfl rfl (Nat.le_of_ble_eq_true rfl) hl.1 d_Dy_about_2 ⟨Nat.zero_le _, Nat.zero_le _⟩ (fun H locs hP hD hS => ?_)
  refine lv_if_ne (tgt := 10) hx hb d_Dy_about_5 (by decide) (fun c_5 => ?_) (fun c_5 => ?_)
  · replace hf := ob_ef c_5 hf
    refine lv_iload_n hx hb d_Dy_about_10 rfl (lv_at hl 2 rfl) ?_
    by_cases e_11_0 : l2 = (0 : Int32)
    · replace hf := ob_et e_11_0 hf
      refine lv_tableIn (off := 45) (tgt := 56) hx hb d_Dy_about_11 (by rw [e_11_0]; decide) (by rw [e_11_0]; decide) (by rw [e_11_0]; decide) (by decide) ?_
      refine lv_aload_n hx hb d_Dy_about_56 rfl (lv_at hl 0 rfl) ?_
      refine lv_iload_n hx hb d_Dy_about_57 rfl (lv_at hl 1 rfl) ?_
      obtain ⟨q_58, hc_58, hf⟩ := oc_e hf
      refine kcV (cc := c_Dy_about) (own := "FloodDiary$Diary") (index := 59) (wc := W_Dy G a v) (wr := ([] : va_W)) (wc' := W_Dy G a v) (ws' := W_Dy G a v) hx hb hml hown hts hK hN hA hP hD hS (t_Dy_kindOf l G a l1 v q_58 hc_58) m_Dy_kindOf k_557 ⟨Nat.le_of_ble_eq_true rfl, Nat.le_of_ble_eq_true rfl⟩ (pm_0 (W_Dy G a v)) (pm_0 (W_Dy G a v)).symm 0 0 rfl rfl rfl rfl rfl (Nat.le_of_ble_eq_true rfl) hl.1 d_Dy_about_58 ⟨Nat.zero_le _, Nat.zero_le _⟩ (fun H locs hP hD hS => ?_)
      cases hf
      exact kI hx hb hr hlk hP hD hS d_Dy_about_61
    · replace hf := ob_ef e_11_0 hf
      by_cases e_11_1 : l2 = (1 : Int32)
      · replace hf := ob_et e_11_1 hf
        refine lv_tableIn (off := 51) (tgt := 62) hx hb d_Dy_about_11 (by rw [e_11_1]; decide) (by rw [e_11_1]; decide) (by rw [e_11_1]; decide) (by decide) ?_
        refine lv_aload_n hx hb d_Dy_about_62 rfl (lv_at hl 0 rfl) ?_
        refine lv_iload_n hx hb d_Dy_about_63 rfl (lv_at hl 1 rfl) ?_
        obtain ⟨q_64, hc_64, hf⟩ := oc_e hf
        refine kcV (cc := c_Dy_about) (own := "FloodDiary$Diary") (index := 63) (wc := W_Dy G a v) (wr := ([] : va_W)) (wc' := W_Dy G a v) (ws' := W_Dy G a v) hx hb hml hown hts hK hN hA hP hD hS (t_Dy_workOf l G a l1 v q_64 hc_64) m_Dy_workOf k_558 ⟨Nat.le_of_ble_eq_true rfl, Nat.le_of_ble_eq_true rfl⟩ (pm_0 (W_Dy G a v)) (pm_0 (W_Dy G a v)).symm 0 0 rfl rfl rfl rfl rfl (Nat.le_of_ble_eq_true rfl) hl.1 d_Dy_about_64 ⟨Nat.zero_le _, Nat.zero_le _⟩ (fun H locs hP hD hS => ?_)
        cases hf
        exact kI hx hb hr hlk hP hD hS d_Dy_about_67
      · replace hf := ob_ef e_11_1 hf
        by_cases e_11_2 : l2 = (2 : Int32)
        · replace hf := ob_et e_11_2 hf
          refine lv_tableIn (off := 57) (tgt := 68) hx hb d_Dy_about_11 (by rw [e_11_2]; decide) (by rw [e_11_2]; decide) (by rw [e_11_2]; decide) (by decide) ?_
          refine lv_aload_n hx hb d_Dy_about_68 rfl (lv_at hl 0 rfl) ?_
          refine lv_iload_n hx hb d_Dy_about_69 rfl (lv_at hl 1 rfl) ?_
          obtain ⟨q_70, hc_70, hf⟩ := oc_e hf
          refine kcV (cc := c_Dy_about) (own := "FloodDiary$Diary") (index := 66) (wc := W_Dy G a v) (wr := ([] : va_W)) (wc' := W_Dy G a v) (ws' := W_Dy G a v) hx hb hml hown hts hK hN hA hP hD hS (t_Dy_earlierOf l G a l1 v q_70 hc_70) m_Dy_earlierOf k_559 ⟨Nat.le_of_ble_eq_true rfl, Nat.le_of_ble_eq_true rfl⟩ (pm_0 (W_Dy G a v)) (pm_0 (W_Dy G a v)).symm 0 0 rfl rfl rfl rfl rfl (Nat.le_of_ble_eq_true rfl) hl.1 d_Dy_about_70 ⟨Nat.zero_le _, Nat.zero_le _⟩ (fun H locs hP hD hS => ?_)
          cases hf
          exact kI hx hb hr hlk hP hD hS d_Dy_about_73
        · replace hf := ob_ef e_11_2 hf
          by_cases e_11_3 : l2 = (3 : Int32)
          · replace hf := ob_et e_11_3 hf
            refine lv_tableIn (off := 63) (tgt := 74) hx hb d_Dy_about_11 (by rw [e_11_3]; decide) (by rw [e_11_3]; decide) (by rw [e_11_3]; decide) (by decide) ?_
            refine lv_aload_n hx hb d_Dy_about_74 rfl (lv_at hl 0 rfl) ?_
            refine lv_iload_n hx hb d_Dy_about_75 rfl (lv_at hl 1 rfl) ?_
            obtain ⟨q_76, hc_76, hf⟩ := oc_e hf
            refine kcV (cc := c_Dy_about) (own := "FloodDiary$Diary") (index := 69) (wc := W_Dy G a v) (wr := ([] : va_W)) (wc' := W_Dy G a v) (ws' := W_Dy G a v) hx hb hml hown hts hK hN hA hP hD hS (t_Dy_pageOf l G a l1 v q_76 hc_76) m_Dy_pageOf k_560 ⟨Nat.le_of_ble_eq_true rfl, Nat.le_of_ble_eq_true rfl⟩ (pm_0 (W_Dy G a v)) (pm_0 (W_Dy G a v)).symm 0 0 rfl rfl rfl rfl rfl (Nat.le_of_ble_eq_true rfl) hl.1 d_Dy_about_76 ⟨Nat.zero_le _, Nat.zero_le _⟩ (fun H locs hP hD hS => ?_)
            cases hf
            exact kI hx hb hr hlk hP hD hS d_Dy_about_79
          · replace hf := ob_ef e_11_3 hf
            by_cases e_11_4 : l2 = (4 : Int32)
            · replace hf := ob_et e_11_4 hf
              refine lv_tableIn (off := 69) (tgt := 80) hx hb d_Dy_about_11 (by rw [e_11_4]; decide) (by rw [e_11_4]; decide) (by rw [e_11_4]; decide) (by decide) ?_
              refine lv_aload_n hx hb d_Dy_about_80 rfl (lv_at hl 0 rfl) ?_
              refine lv_iload_n hx hb d_Dy_about_81 rfl (lv_at hl 1 rfl) ?_
              obtain ⟨q_82, hc_82, hf⟩ := oc_e hf
              refine kcV (cc := c_Dy_about) (own := "FloodDiary$Diary") (index := 72) (wc := W_Dy G a v) (wr := ([] : va_W)) (wc' := W_Dy G a v) (ws' := W_Dy G a v) hx hb hml hown hts hK hN hA hP hD hS (t_Dy_beforeOf l G a l1 v q_82 hc_82) m_Dy_beforeOf k_561 ⟨Nat.le_of_ble_eq_true rfl, Nat.le_of_ble_eq_true rfl⟩ (pm_0 (W_Dy G a v)) (pm_0 (W_Dy G a v)).symm 0 0 rfl rfl rfl rfl rfl (Nat.le_of_ble_eq_true rfl) hl.1 d_Dy_about_82 ⟨Nat.zero_le _, Nat.zero_le _⟩ (fun H locs hP hD hS => ?_)
              cases hf
              exact kI hx hb hr hlk hP hD hS d_Dy_about_85
            · replace hf := ob_ef e_11_4 hf
              by_cases e_11_5 : l2 = (5 : Int32)
              · replace hf := ob_et e_11_5 hf
                refine lv_tableIn (off := 75) (tgt := 86) hx hb d_Dy_about_11 (by rw [e_11_5]; decide) (by rw [e_11_5]; decide) (by rw [e_11_5]; decide) (by decide) ?_
                refine lv_aload_n hx hb d_Dy_about_86 rfl (lv_at hl 0 rfl) ?_
                refine lv_iload_n hx hb d_Dy_about_87 rfl (lv_at hl 1 rfl) ?_
                obtain ⟨q_88, hc_88, hf⟩ := oc_e hf
                refine kcV (cc := c_Dy_about) (own := "FloodDiary$Diary") (index := 75) (wc := W_Dy G a v) (wr := ([] : va_W)) (wc' := W_Dy G a v) (ws' := W_Dy G a v) hx hb hml hown hts hK hN hA hP hD hS (t_Dy_thenOf l G a l1 v q_88 hc_88) m_Dy_thenOf k_562 ⟨Nat.le_of_ble_eq_true rfl, Nat.le_of_ble_eq_true rfl⟩ (pm_0 (W_Dy G a v)) (pm_0 (W_Dy G a v)).symm 0 0 rfl rfl rfl rfl rfl (Nat.le_of_ble_eq_true rfl) hl.1 d_Dy_about_88 ⟨Nat.zero_le _, Nat.zero_le _⟩ (fun H locs hP hD hS => ?_)
                cases hf
                exact kI hx hb hr hlk hP hD hS d_Dy_about_91
              · replace hf := ob_ef e_11_5 hf
                by_cases e_11_6 : l2 = (6 : Int32)
                · replace hf := ob_et e_11_6 hf
                  refine lv_tableIn (off := 81) (tgt := 92) hx hb d_Dy_about_11 (by rw [e_11_6]; decide) (by rw [e_11_6]; decide) (by rw [e_11_6]; decide) (by decide) ?_
                  refine lv_aload_n hx hb d_Dy_about_92 rfl (lv_at hl 0 rfl) ?_
                  refine lv_iload_n hx hb d_Dy_about_93 rfl (lv_at hl 1 rfl) ?_
                  obtain ⟨q_94, hc_94, hf⟩ := oc_e hf
                  refine kcV (cc := c_Dy_about) (own := "FloodDiary$Diary") (index := 78) (wc := W_Dy G a v) (wr := ([] : va_W)) (wc' := W_Dy G a v) (ws' := W_Dy G a v) hx hb hml hown hts hK hN hA hP hD hS (t_Dy_nextOf l G a l1 v q_94 hc_94) m_Dy_nextOf k_563 ⟨Nat.le_of_ble_eq_true rfl, Nat.le_of_ble_eq_true rfl⟩ (pm_0 (W_Dy G a v)) (pm_0 (W_Dy G a v)).symm 0 0 rfl rfl rfl rfl rfl (Nat.le_of_ble_eq_true rfl) hl.1 d_Dy_about_94 ⟨Nat.zero_le _, Nat.zero_le _⟩ (fun H locs hP hD hS => ?_)
                  cases hf
                  exact kI hx hb hr hlk hP hD hS d_Dy_about_97
                · replace hf := ob_ef e_11_6 hf
                  by_cases e_11_7 : l2 = (7 : Int32)
                  · replace hf := ob_et e_11_7 hf
                    refine lv_tableIn (off := 87) (tgt := 98) hx hb d_Dy_about_11 (by rw [e_11_7]; decide) (by rw [e_11_7]; decide) (by rw [e_11_7]; decide) (by decide) ?_
                    refine lv_iload_n hx hb d_Dy_about_98 rfl (lv_at hl 1 rfl) ?_
                    refine lv_aload_n hx hb d_Dy_about_99 rfl (lv_at hl 0 rfl) ?_
                    refine va_get (D := G.1) (ci := 0) (v := .int v.2.2.2.2.2.2.2.2) (C := R_Dy) (T := T_Dy) (N := 9) hx hb hts in_Dy hown hK hP 0 rfl rfl 8 (by decide) (hts _ k_67) (fun _ h9 => h9) rfl d_Dy_about_100 ?_
                    refine lv_icmp_gt (tgt := 110) hx hb d_Dy_about_103 (by decide) (fun c_103 => ?_) (fun c_103 => ?_)
                    · replace hf := ob_et c_103 hf
                      refine lv_iconst (v := (0 : Int32)) hx hb d_Dy_about_110 (by decide) ?_
                      obtain ⟨q_111, hc_111, hf⟩ := oc_e hf
                      refine kcSN (cc := c_Dy_about) (own := "FloodDiary$Diary") (index := 81) (wc := ([] : va_W)) (wr := W_Dy G a v) (wc' := ([] : va_W)) (ws' := W_Dy G a v) hx hb hml hown hts hK hN hA hP hD hS (t_Fd_asNumber l G (0 : Int32) q_111 hc_111) m_Fd_asNumber nsM_13 ⟨Nat.le_of_ble_eq_true rfl, Nat.le_of_ble_eq_true rfl⟩ (List.Perm.refl _) (List.Perm.refl _) rfl rfl (Nat.le_of_ble_eq_true rfl) hl.1 d_Dy_about_111 ⟨Nat.zero_le _, Nat.zero_le _⟩ (fun H locs hP hD hS => ?_)
                      cases hf
                      exact kI hx hb hr hlk hP hD hS d_Dy_about_114
                    · replace hf := ob_ef c_103 hf
                      refine lv_iconst (v := (1 : Int32)) hx hb d_Dy_about_106 (by decide) ?_
                      refine lv_goto (tgt := 111) hx hb d_Dy_about_107 (by decide) ?_
                      obtain ⟨q_111, hc_111, hf⟩ := oc_e hf
                      refine kcSN (cc := c_Dy_about) (own := "FloodDiary$Diary") (index := 81) (wc := ([] : va_W)) (wr := W_Dy G a v) (wc' := ([] : va_W)) (ws' := W_Dy G a v) hx hb hml hown hts hK hN hA hP hD hS (t_Fd_asNumber l G (1 : Int32) q_111 hc_111) m_Fd_asNumber nsM_13 ⟨Nat.le_of_ble_eq_true rfl, Nat.le_of_ble_eq_true rfl⟩ (List.Perm.refl _) (List.Perm.refl _) rfl rfl (Nat.le_of_ble_eq_true rfl) hl.1 d_Dy_about_111 ⟨Nat.zero_le _, Nat.zero_le _⟩ (fun H locs hP hD hS => ?_)
                      cases hf
                      exact kI hx hb hr hlk hP hD hS d_Dy_about_114
                  · replace hf := ob_ef e_11_7 hf
                    have z_11_0 := lv_neT e_11_0 (show (0 : Int32).toInt = 0 by decide)
                    have z_11_1 := lv_neT e_11_1 (show (1 : Int32).toInt = 1 by decide)
                    have z_11_2 := lv_neT e_11_2 (show (2 : Int32).toInt = 2 by decide)
                    have z_11_3 := lv_neT e_11_3 (show (3 : Int32).toInt = 3 by decide)
                    have z_11_4 := lv_neT e_11_4 (show (4 : Int32).toInt = 4 by decide)
                    have z_11_5 := lv_neT e_11_5 (show (5 : Int32).toInt = 5 by decide)
                    have z_11_6 := lv_neT e_11_6 (show (6 : Int32).toInt = 6 by decide)
                    have z_11_7 := lv_neT e_11_7 (show (7 : Int32).toInt = 7 by decide)
                    refine lv_tableOut (tgt := 115) hx hb d_Dy_about_11 (by omega) (by decide) ?_
                    refine lv_bipush (v := (-2 : Int32)) hx hb d_Dy_about_115 (by decide) ?_
                    cases hf
                    exact kI hx hb hr hlk hP hD hS d_Dy_about_117
  · replace hf := ob_et c_5 hf
    refine lv_iconst (v := (-1 : Int32)) hx hb d_Dy_about_8 (by decide) ?_
    cases hf
    exact kI hx hb hr hlk hP hD hS d_Dy_about_9
set_option maxHeartbeats 4000000 in
set_option maxRecDepth 100000 in
theorem t_Dy_become (l : Launch) (G : GG) (a : Nat → Nat) (b : Nat → Nat) (v : V_Dy) (u : V_Dy) (q : V_Dy) (hf : f_Dy_become v u = some q) : MV l G y_Dy_become c_Dy_become 3 (rmk 1 18) (W_Dy G a v ++ W_Dy G b u) [.ref (a 0), .ref (b 0)] (W_Dy G a q ++ W_Dy G b u) := by
  refine ofV "FloodDiary$Diary" (by decide +kernel) rfl (Nat.le_of_ble_eq_true rfl) (fun p e s m args below meth c A ls hx hb hr hml hown hts hlk hK hN hA hP hD hS hl => ?_)
  have hl : lv_has ls 3 [(0, .ref (a 0)), (1, .ref (b 0))] := hl
  unfold f_Dy_become at hf
  refine lv_aload_n hx hb d_Dy_become_0 rfl (lv_at hl 1 rfl) ?_
  refine va_get (D := G.1) (ci := 0) (v := .int u.2.2.2.2.2.2.2.1) (C := R_Dy) (T := T_Dy) (N := 9) hx hb hts in_Dy hown hK hP 8 rfl rfl 7 (by decide) (hts _ k_63) (fun _ h9 => h9) rfl d_Dy_become_1 ?_
  refine lv_iconst (v := (1 : Int32)) hx hb d_Dy_become_4 (by decide) ?_
  refine lv_iadd hx hb d_Dy_become_5 ?_
  refine lv_istore_n (lv' := [(2, .int (u.2.2.2.2.2.2.2.1 + (1 : Int32))), (0, .ref (a 0)), (1, .ref (b 0))]) hx hb d_Dy_become_6 rfl hl (by decide) rfl (fun ls hl => ?_)
  refine lv_aload_n hx hb d_Dy_become_7 rfl (lv_at hl 2 rfl) ?_
  refine va_get (D := G.1) (ci := 0) (v := .ref (b 1)) (C := R_Dy) (T := T_Dy) (N := 9) hx hb hts in_Dy hown hK hP 8 rfl rfl 0 (by decide) (hts _ k_56) (fun _ h9 => h9) rfl d_Dy_become_8 ?_
  refine lv_iconst (v := (0 : Int32)) hx hb d_Dy_become_11 (by decide) ?_
  refine lv_aload_n hx hb d_Dy_become_12 rfl (lv_at hl 1 rfl) ?_
  refine va_get (D := G.1) (ci := 0) (v := .ref (a 1)) (C := R_Dy) (T := T_Dy) (N := 9) hx hb hts in_Dy hown hK hP 0 rfl rfl 0 (by decide) (hts _ k_56) (fun _ h9 => h9) rfl d_Dy_become_13 ?_
  refine lv_iconst (v := (0 : Int32)) hx hb d_Dy_become_16 (by decide) ?_
  refine lv_iload_n hx hb d_Dy_become_17 rfl (lv_at hl 0 rfl) ?_
  obtain ⟨⟨g1_18, g2_18, g3_18, g4_18, g5_18⟩, hf⟩ := og_e hf
  obtain ⟨r_18, er_18, hf⟩ := nx_e hf
  refine va_copyi (own := "FloodDiary$Diary") (index := 40) (ty := .int) hx hb (hml.trans hl.1.symm) hown (hts _ k_260) (hts _ k_255) (hts _ k_254) (hts _ k_11) hK hP hD hS 9 1 0 0 rfl rfl rfl rfl rfl g1_18 g2_18 g3_18 g4_18 g5_18 (fun _ _ => rfl) (Nat.le_of_ble_eq_true rfl) (Nat.le_of_ble_eq_true rfl) d_Dy_become_18 (fun H locs hP hD hS => ?_)
  rw [← er_18] at hP hD
  have hP : va_P G.1 vwCl (W_Dy G a (r_18, v.2.1, v.2.2.1, v.2.2.2.1, v.2.2.2.2.1, v.2.2.2.2.2.1, v.2.2.2.2.2.2.1, v.2.2.2.2.2.2.2.1, v.2.2.2.2.2.2.2.2) ++ W_Dy G b u) H := hP
  have hD : va_D A (W_Dy G a (r_18, v.2.1, v.2.2.1, v.2.2.2.1, v.2.2.2.2.1, v.2.2.2.2.2.1, v.2.2.2.2.2.2.1, v.2.2.2.2.2.2.2.1, v.2.2.2.2.2.2.2.2) ++ W_Dy G b u) := hD
  refine lv_aload_n hx hb d_Dy_become_21 rfl (lv_at hl 2 rfl) ?_
  refine va_get (D := G.1) (ci := 0) (v := .ref (b 2)) (C := R_Dy) (T := T_Dy) (N := 9) hx hb hts in_Dy hown hK hP 8 rfl rfl 1 (by decide) (hts _ k_57) (fun _ h9 => h9) rfl d_Dy_become_22 ?_
  refine lv_iconst (v := (0 : Int32)) hx hb d_Dy_become_25 (by decide) ?_
  refine lv_aload_n hx hb d_Dy_become_26 rfl (lv_at hl 1 rfl) ?_
  refine va_get (D := G.1) (ci := 0) (v := .ref (a 2)) (C := R_Dy) (T := T_Dy) (N := 9) hx hb hts in_Dy hown hK hP 0 rfl rfl 1 (by decide) (hts _ k_57) (fun _ h9 => h9) rfl d_Dy_become_27 ?_
  refine lv_iconst (v := (0 : Int32)) hx hb d_Dy_become_30 (by decide) ?_
  refine lv_iload_n hx hb d_Dy_become_31 rfl (lv_at hl 0 rfl) ?_
  obtain ⟨⟨g1_32, g2_32, g3_32, g4_32, g5_32⟩, hf⟩ := og_e hf
  obtain ⟨r_32, er_32, hf⟩ := nx_e hf
  refine va_copyi (own := "FloodDiary$Diary") (index := 40) (ty := .int) hx hb (hml.trans hl.1.symm) hown (hts _ k_260) (hts _ k_255) (hts _ k_254) (hts _ k_11) hK hP hD hS 10 2 0 0 rfl rfl rfl rfl rfl g1_32 g2_32 g3_32 g4_32 g5_32 (fun _ _ => rfl) (Nat.le_of_ble_eq_true rfl) (Nat.le_of_ble_eq_true rfl) d_Dy_become_32 (fun H locs hP hD hS => ?_)
  rw [← er_32] at hP hD
  have hP : va_P G.1 vwCl (W_Dy G a (r_18, r_32, v.2.2.1, v.2.2.2.1, v.2.2.2.2.1, v.2.2.2.2.2.1, v.2.2.2.2.2.2.1, v.2.2.2.2.2.2.2.1, v.2.2.2.2.2.2.2.2) ++ W_Dy G b u) H := hP
  have hD : va_D A (W_Dy G a (r_18, r_32, v.2.2.1, v.2.2.2.1, v.2.2.2.2.1, v.2.2.2.2.2.1, v.2.2.2.2.2.2.1, v.2.2.2.2.2.2.2.1, v.2.2.2.2.2.2.2.2) ++ W_Dy G b u) := hD
  refine lv_aload_n hx hb d_Dy_become_35 rfl (lv_at hl 2 rfl) ?_
  refine va_get (D := G.1) (ci := 0) (v := .ref (b 3)) (C := R_Dy) (T := T_Dy) (N := 9) hx hb hts in_Dy hown hK hP 8 rfl rfl 2 (by decide) (hts _ k_58) (fun _ h9 => h9) rfl d_Dy_become_36 ?_
  refine lv_iconst (v := (0 : Int32)) hx hb d_Dy_become_39 (by decide) ?_
  refine lv_aload_n hx hb d_Dy_become_40 rfl (lv_at hl 1 rfl) ?_
  refine va_get (D := G.1) (ci := 0) (v := .ref (a 3)) (C := R_Dy) (T := T_Dy) (N := 9) hx hb hts in_Dy hown hK hP 0 rfl rfl 2 (by decide) (hts _ k_58) (fun _ h9 => h9) rfl d_Dy_become_41 ?_
  refine lv_iconst (v := (0 : Int32)) hx hb d_Dy_become_44 (by decide) ?_
  refine lv_iload_n hx hb d_Dy_become_45 rfl (lv_at hl 0 rfl) ?_
  obtain ⟨⟨g1_46, g2_46, g3_46, g4_46, g5_46⟩, hf⟩ := og_e hf
  obtain ⟨r_46, er_46, hf⟩ := nx_e hf
  refine va_copyi (own := "FloodDiary$Diary") (index := 40) (ty := .int) hx hb (hml.trans hl.1.symm) hown (hts _ k_260) (hts _ k_255) (hts _ k_254) (hts _ k_11) hK hP hD hS 11 3 0 0 rfl rfl rfl rfl rfl g1_46 g2_46 g3_46 g4_46 g5_46 (fun _ _ => rfl) (Nat.le_of_ble_eq_true rfl) (Nat.le_of_ble_eq_true rfl) d_Dy_become_46 (fun H locs hP hD hS => ?_)
  rw [← er_46] at hP hD
  have hP : va_P G.1 vwCl (W_Dy G a (r_18, r_32, r_46, v.2.2.2.1, v.2.2.2.2.1, v.2.2.2.2.2.1, v.2.2.2.2.2.2.1, v.2.2.2.2.2.2.2.1, v.2.2.2.2.2.2.2.2) ++ W_Dy G b u) H := hP
  have hD : va_D A (W_Dy G a (r_18, r_32, r_46, v.2.2.2.1, v.2.2.2.2.1, v.2.2.2.2.2.1, v.2.2.2.2.2.2.1, v.2.2.2.2.2.2.2.1, v.2.2.2.2.2.2.2.2) ++ W_Dy G b u) := hD
  refine lv_aload_n hx hb d_Dy_become_49 rfl (lv_at hl 2 rfl) ?_
  refine va_get (D := G.1) (ci := 0) (v := .ref (b 4)) (C := R_Dy) (T := T_Dy) (N := 9) hx hb hts in_Dy hown hK hP 8 rfl rfl 3 (by decide) (hts _ k_59) (fun _ h9 => h9) rfl d_Dy_become_50 ?_
  refine lv_iconst (v := (0 : Int32)) hx hb d_Dy_become_53 (by decide) ?_
  refine lv_aload_n hx hb d_Dy_become_54 rfl (lv_at hl 1 rfl) ?_
  refine va_get (D := G.1) (ci := 0) (v := .ref (a 4)) (C := R_Dy) (T := T_Dy) (N := 9) hx hb hts in_Dy hown hK hP 0 rfl rfl 3 (by decide) (hts _ k_59) (fun _ h9 => h9) rfl d_Dy_become_55 ?_
  refine lv_iconst (v := (0 : Int32)) hx hb d_Dy_become_58 (by decide) ?_
  refine lv_iload_n hx hb d_Dy_become_59 rfl (lv_at hl 0 rfl) ?_
  obtain ⟨⟨g1_60, g2_60, g3_60, g4_60, g5_60⟩, hf⟩ := og_e hf
  obtain ⟨r_60, er_60, hf⟩ := nx_e hf
  refine va_copyi (own := "FloodDiary$Diary") (index := 40) (ty := .int) hx hb (hml.trans hl.1.symm) hown (hts _ k_260) (hts _ k_255) (hts _ k_254) (hts _ k_11) hK hP hD hS 12 4 0 0 rfl rfl rfl rfl rfl g1_60 g2_60 g3_60 g4_60 g5_60 (fun _ _ => rfl) (Nat.le_of_ble_eq_true rfl) (Nat.le_of_ble_eq_true rfl) d_Dy_become_60 (fun H locs hP hD hS => ?_)
  rw [← er_60] at hP hD
  have hP : va_P G.1 vwCl (W_Dy G a (r_18, r_32, r_46, r_60, v.2.2.2.2.1, v.2.2.2.2.2.1, v.2.2.2.2.2.2.1, v.2.2.2.2.2.2.2.1, v.2.2.2.2.2.2.2.2) ++ W_Dy G b u) H := hP
  have hD : va_D A (W_Dy G a (r_18, r_32, r_46, r_60, v.2.2.2.2.1, v.2.2.2.2.2.1, v.2.2.2.2.2.2.1, v.2.2.2.2.2.2.2.1, v.2.2.2.2.2.2.2.2) ++ W_Dy G b u) := hD
  refine lv_aload_n hx hb d_Dy_become_63 rfl (lv_at hl 2 rfl) ?_
  refine va_get (D := G.1) (ci := 0) (v := .ref (b 5)) (C := R_Dy) (T := T_Dy) (N := 9) hx hb hts in_Dy hown hK hP 8 rfl rfl 4 (by decide) (hts _ k_60) (fun _ h9 => h9) rfl d_Dy_become_64 ?_
  refine lv_iconst (v := (0 : Int32)) hx hb d_Dy_become_67 (by decide) ?_
  refine lv_aload_n hx hb d_Dy_become_68 rfl (lv_at hl 1 rfl) ?_
  refine va_get (D := G.1) (ci := 0) (v := .ref (a 5)) (C := R_Dy) (T := T_Dy) (N := 9) hx hb hts in_Dy hown hK hP 0 rfl rfl 4 (by decide) (hts _ k_60) (fun _ h9 => h9) rfl d_Dy_become_69 ?_
  refine lv_iconst (v := (0 : Int32)) hx hb d_Dy_become_72 (by decide) ?_
  refine lv_iload_n hx hb d_Dy_become_73 rfl (lv_at hl 0 rfl) ?_
  obtain ⟨⟨g1_74, g2_74, g3_74, g4_74, g5_74⟩, hf⟩ := og_e hf
  obtain ⟨r_74, er_74, hf⟩ := nx_e hf
  refine va_copyi (own := "FloodDiary$Diary") (index := 40) (ty := .int) hx hb (hml.trans hl.1.symm) hown (hts _ k_260) (hts _ k_255) (hts _ k_254) (hts _ k_11) hK hP hD hS 13 5 0 0 rfl rfl rfl rfl rfl g1_74 g2_74 g3_74 g4_74 g5_74 (fun _ _ => rfl) (Nat.le_of_ble_eq_true rfl) (Nat.le_of_ble_eq_true rfl) d_Dy_become_74 (fun H locs hP hD hS => ?_)
  rw [← er_74] at hP hD
  have hP : va_P G.1 vwCl (W_Dy G a (r_18, r_32, r_46, r_60, r_74, v.2.2.2.2.2.1, v.2.2.2.2.2.2.1, v.2.2.2.2.2.2.2.1, v.2.2.2.2.2.2.2.2) ++ W_Dy G b u) H := hP
  have hD : va_D A (W_Dy G a (r_18, r_32, r_46, r_60, r_74, v.2.2.2.2.2.1, v.2.2.2.2.2.2.1, v.2.2.2.2.2.2.2.1, v.2.2.2.2.2.2.2.2) ++ W_Dy G b u) := hD
  refine lv_aload_n hx hb d_Dy_become_77 rfl (lv_at hl 2 rfl) ?_
  refine va_get (D := G.1) (ci := 0) (v := .ref (b 6)) (C := R_Dy) (T := T_Dy) (N := 9) hx hb hts in_Dy hown hK hP 8 rfl rfl 5 (by decide) (hts _ k_61) (fun _ h9 => h9) rfl d_Dy_become_78 ?_
  refine lv_iconst (v := (0 : Int32)) hx hb d_Dy_become_81 (by decide) ?_
  refine lv_aload_n hx hb d_Dy_become_82 rfl (lv_at hl 1 rfl) ?_
  refine va_get (D := G.1) (ci := 0) (v := .ref (a 6)) (C := R_Dy) (T := T_Dy) (N := 9) hx hb hts in_Dy hown hK hP 0 rfl rfl 5 (by decide) (hts _ k_61) (fun _ h9 => h9) rfl d_Dy_become_83 ?_
  refine lv_iconst (v := (0 : Int32)) hx hb d_Dy_become_86 (by decide) ?_
  refine lv_iload_n hx hb d_Dy_become_87 rfl (lv_at hl 0 rfl) ?_
  obtain ⟨⟨g1_88, g2_88, g3_88, g4_88, g5_88⟩, hf⟩ := og_e hf
  obtain ⟨r_88, er_88, hf⟩ := nx_e hf
  refine va_copyi (own := "FloodDiary$Diary") (index := 40) (ty := .int) hx hb (hml.trans hl.1.symm) hown (hts _ k_260) (hts _ k_255) (hts _ k_254) (hts _ k_11) hK hP hD hS 14 6 0 0 rfl rfl rfl rfl rfl g1_88 g2_88 g3_88 g4_88 g5_88 (fun _ _ => rfl) (Nat.le_of_ble_eq_true rfl) (Nat.le_of_ble_eq_true rfl) d_Dy_become_88 (fun H locs hP hD hS => ?_)
  rw [← er_88] at hP hD
  have hP : va_P G.1 vwCl (W_Dy G a (r_18, r_32, r_46, r_60, r_74, r_88, v.2.2.2.2.2.2.1, v.2.2.2.2.2.2.2.1, v.2.2.2.2.2.2.2.2) ++ W_Dy G b u) H := hP
  have hD : va_D A (W_Dy G a (r_18, r_32, r_46, r_60, r_74, r_88, v.2.2.2.2.2.2.1, v.2.2.2.2.2.2.2.1, v.2.2.2.2.2.2.2.2) ++ W_Dy G b u) := hD
  refine lv_aload_n hx hb d_Dy_become_91 rfl (lv_at hl 2 rfl) ?_
  refine va_get (D := G.1) (ci := 0) (v := .ref (b 7)) (C := R_Dy) (T := T_Dy) (N := 9) hx hb hts in_Dy hown hK hP 8 rfl rfl 6 (by decide) (hts _ k_62) (fun _ h9 => h9) rfl d_Dy_become_92 ?_
  refine lv_iconst (v := (0 : Int32)) hx hb d_Dy_become_95 (by decide) ?_
  refine lv_aload_n hx hb d_Dy_become_96 rfl (lv_at hl 1 rfl) ?_
  refine va_get (D := G.1) (ci := 0) (v := .ref (a 7)) (C := R_Dy) (T := T_Dy) (N := 9) hx hb hts in_Dy hown hK hP 0 rfl rfl 6 (by decide) (hts _ k_62) (fun _ h9 => h9) rfl d_Dy_become_97 ?_
  refine lv_iconst (v := (0 : Int32)) hx hb d_Dy_become_100 (by decide) ?_
  refine lv_iload_n hx hb d_Dy_become_101 rfl (lv_at hl 0 rfl) ?_
  obtain ⟨⟨g1_102, g2_102, g3_102, g4_102, g5_102⟩, hf⟩ := og_e hf
  obtain ⟨r_102, er_102, hf⟩ := nx_e hf
  refine va_copyi (own := "FloodDiary$Diary") (index := 40) (ty := .int) hx hb (hml.trans hl.1.symm) hown (hts _ k_260) (hts _ k_255) (hts _ k_254) (hts _ k_11) hK hP hD hS 15 7 0 0 rfl rfl rfl rfl rfl g1_102 g2_102 g3_102 g4_102 g5_102 (fun _ _ => rfl) (Nat.le_of_ble_eq_true rfl) (Nat.le_of_ble_eq_true rfl) d_Dy_become_102 (fun H locs hP hD hS => ?_)
  rw [← er_102] at hP hD
  have hP : va_P G.1 vwCl (W_Dy G a (r_18, r_32, r_46, r_60, r_74, r_88, r_102, v.2.2.2.2.2.2.2.1, v.2.2.2.2.2.2.2.2) ++ W_Dy G b u) H := hP
  have hD : va_D A (W_Dy G a (r_18, r_32, r_46, r_60, r_74, r_88, r_102, v.2.2.2.2.2.2.2.1, v.2.2.2.2.2.2.2.2) ++ W_Dy G b u) := hD
  refine lv_aload_n hx hb d_Dy_become_105 rfl (lv_at hl 1 rfl) ?_
  refine lv_aload_n hx hb d_Dy_become_106 rfl (lv_at hl 2 rfl) ?_
  refine va_get (D := G.1) (ci := 0) (v := .int u.2.2.2.2.2.2.2.1) (C := R_Dy) (T := T_Dy) (N := 9) hx hb hts in_Dy hown hK hP 8 rfl rfl 7 (by decide) (hts _ k_63) (fun _ h9 => h9) rfl d_Dy_become_107 ?_
  refine va_put (D := G.1) (ci := 0) (v := .int u.2.2.2.2.2.2.2.1) (ty := .int) (C := R_Dy) (T := T_Dy) (N := 9) hx hb hts in_Dy ty_Dy ty_Dy_ok nm_Dy hown hK hP hD hS 0 rfl rfl 7 (by decide) (hts _ k_63) (fun _ h9 => h9) rfl (ty_Dy_ok 7 (by decide)) rfl rfl (Nat.le_of_ble_eq_true rfl) d_Dy_become_110 (fun H locs hP hD hS => ?_)
  have hP : va_P G.1 vwCl (W_Dy G a (r_18, r_32, r_46, r_60, r_74, r_88, r_102, u.2.2.2.2.2.2.2.1, v.2.2.2.2.2.2.2.2) ++ W_Dy G b u) H := hP
  have hD : va_D A (W_Dy G a (r_18, r_32, r_46, r_60, r_74, r_88, r_102, u.2.2.2.2.2.2.2.1, v.2.2.2.2.2.2.2.2) ++ W_Dy G b u) := hD
  refine lv_aload_n hx hb d_Dy_become_113 rfl (lv_at hl 1 rfl) ?_
  refine lv_aload_n hx hb d_Dy_become_114 rfl (lv_at hl 2 rfl) ?_
  refine va_get (D := G.1) (ci := 0) (v := .int u.2.2.2.2.2.2.2.2) (C := R_Dy) (T := T_Dy) (N := 9) hx hb hts in_Dy hown hK hP 8 rfl rfl 8 (by decide) (hts _ k_67) (fun _ h9 => h9) rfl d_Dy_become_115 ?_
  refine va_put (D := G.1) (ci := 0) (v := .int u.2.2.2.2.2.2.2.2) (ty := .int) (C := R_Dy) (T := T_Dy) (N := 9) hx hb hts in_Dy ty_Dy ty_Dy_ok nm_Dy hown hK hP hD hS 0 rfl rfl 8 (by decide) (hts _ k_67) (fun _ h9 => h9) rfl (ty_Dy_ok 8 (by decide)) rfl rfl (Nat.le_of_ble_eq_true rfl) d_Dy_become_118 (fun H locs hP hD hS => ?_)
  have hP : va_P G.1 vwCl (W_Dy G a (r_18, r_32, r_46, r_60, r_74, r_88, r_102, u.2.2.2.2.2.2.2.1, u.2.2.2.2.2.2.2.2) ++ W_Dy G b u) H := hP
  have hD : va_D A (W_Dy G a (r_18, r_32, r_46, r_60, r_74, r_88, r_102, u.2.2.2.2.2.2.2.1, u.2.2.2.2.2.2.2.2) ++ W_Dy G b u) := hD
  cases hf
  exact kV hx hb hr hlk hP hD hS d_Dy_become_121
