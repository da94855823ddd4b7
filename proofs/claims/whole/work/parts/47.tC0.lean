abbrev Pg0 : V_Pg := ((fun _ => 0), (fun _ => 0), (fun _ => 0), (fun _ => 0), 0)
abbrev Dy0 : V_Dy := ((fun _ => 0), (fun _ => 0), (fun _ => 0), (fun _ => 0), (fun _ => 0), (fun _ => 0), (fun _ => 0), 0, 0)
abbrev Wk0 : V_Wk := ((fun _ => 0), (fun _ => 0), (fun _ => 0), (fun _ => 0), (fun _ => 0), 0)
abbrev St0 : V_St := (Pg0, Dy0, Wk0, 0, 0, 1, 0, 0, 0)
abbrev Pd0 : V_Pd := ((fun _ => 0), 0)
abbrev Or0 : V_Or := ((fun _ => 0), (fun _ => 0), (fun _ => 0), (fun _ => 0), 0, 0, (-6))
abbrev Hi0 : V_Hi := (St0, St0, St0, St0, St0, St0, St0, 0, 0)
abbrev S00 : V_S0 := ()
abbrev Fd0 : V_Fd := (St0, St0, Pd0, Or0, Hi0)
abbrev Md0 : V_Md := ((fun _ => 0), (fun _ => 0), (fun _ => 0), 0, (fun _ => 0), (fun _ => 0), (fun _ => 0), 0, 0)
set_option maxHeartbeats 4000000 in
set_option maxRecDepth 100000 in
theorem t_Pg_init (l : Launch) (G : GG) (h0 : Nat) : MC (S := Nat → Nat) l G y_Pg_init c_Pg_init 1 { frames := 1, cells := 4, slots := 32, locals := 12 } ([(h0, .inr (4, [.null, .null, .null, .null, .int 0]))]) h0 (fun u => W_Pg G u Pg0) (fun u => u 0) := by
  refine ofC "FloodDiary$Pages" (by decide +kernel) rfl rfl (Nat.le_of_ble_eq_true rfl) (fun p e s m args below meth c A ls hx hb hr hml hown hin hts hlk hK hN hA hP hD hS hl => ?_)
  have hl : lv_has ls 1 [(0, .ref h0)] := hl
  refine lv_aload_n hx hb d_Pg_init_0 rfl (lv_at hl 0 rfl) ?_
  refine W.objInit (own := "FloodDiary$Pages") (idx := 3) hx hb hown (hts _ k_32) (hts _ k_19) (hts _ k_20) rfl (by rw [hml]; exact hl.1) rfl d_Pg_init_1 (Nat.le_of_ble_eq_true rfl) (Nat.le_of_ble_eq_true rfl) ?_
  refine W.eq (g2 := F0 m 4 ls []) rfl ?_
  refine lv_aload_n hx hb d_Pg_init_4 rfl (lv_at hl 0 rfl) ?_
  refine lv_bipush (v := (8 : Int32)) hx hb d_Pg_init_5 (by decide) ?_
  refine knewI (N' := 8) hx hb (hts _ k_49) hK hP hD hS hA (by decide +kernel) (by decide +kernel) (Nat.le_of_ble_eq_true rfl) (Nat.le_of_ble_eq_true rfl) (Nat.le_of_ble_eq_true rfl) d_Pg_init_7 (fun q7 H hP hD hS => ?_)
  have hP : va_P G.1 vwCl (([(h0, .inr (4, [.null, .null, .null, .null, .int 0]))]) ++ [(q7, .inl (G.2.1, 8, .inl (fun _ => 0)))]) H := hP
  have hD : va_D A (([(h0, .inr (4, [.null, .null, .null, .null, .int 0]))]) ++ [(q7, .inl (G.2.1, 8, .inl (fun _ => 0)))]) := hD
  refine va_putF (D := G.1) (ci := 4) (v := .ref q7) (C := R_Pg) (T := T_Pg) (N := 5) hx hb hts in_Pg ty_Pg ty_Pg_ok nm_Pg hown hK hP hD hS 0 rfl rfl 0 (by decide) (hts _ k_33) (fun _ h9 => h9) rfl hin rfl (ty_Pg_ok 0 (by decide)) rfl rfl (Nat.le_of_ble_eq_true rfl) d_Pg_init_9 (fun H locs hP hD hS => ?_)
  have hP : va_P G.1 vwCl (([(h0, .inr (4, [.ref q7, .null, .null, .null, .int 0]))]) ++ [(q7, .inl (G.2.1, 8, .inl (fun _ => 0)))]) H := hP
  have hD : va_D A (([(h0, .inr (4, [.ref q7, .null, .null, .null, .int 0]))]) ++ [(q7, .inl (G.2.1, 8, .inl (fun _ => 0)))]) := hD
  refine lv_aload_n hx hb d_Pg_init_12 rfl (lv_at hl 0 rfl) ?_
  refine lv_bipush (v := (8 : Int32)) hx hb d_Pg_init_13 (by decide) ?_
  refine knewI (N' := 8) hx hb (hts _ k_49) hK hP hD hS hA (by decide +kernel) (by decide +kernel) (Nat.le_of_ble_eq_true rfl) (Nat.le_of_ble_eq_true rfl) (Nat.le_of_ble_eq_true rfl) d_Pg_init_15 (fun q15 H hP hD hS => ?_)
  have hP : va_P G.1 vwCl ((([(h0, .inr (4, [.ref q7, .null, .null, .null, .int 0]))]) ++ [(q7, .inl (G.2.1, 8, .inl (fun _ => 0)))]) ++ [(q15, .inl (G.2.1, 8, .inl (fun _ => 0)))]) H := hP
  have hD : va_D A ((([(h0, .inr (4, [.ref q7, .null, .null, .null, .int 0]))]) ++ [(q7, .inl (G.2.1, 8, .inl (fun _ => 0)))]) ++ [(q15, .inl (G.2.1, 8, .inl (fun _ => 0)))]) := hD
  refine va_putF (D := G.1) (ci := 4) (v := .ref q15) (C := R_Pg) (T := T_Pg) (N := 5) hx hb hts in_Pg ty_Pg ty_Pg_ok nm_Pg hown hK hP hD hS 0 rfl rfl 1 (by decide) (hts _ k_34) (fun _ h9 => h9) rfl hin rfl (ty_Pg_ok 1 (by decide)) rfl rfl (Nat.le_of_ble_eq_true rfl) d_Pg_init_17 (fun H locs hP hD hS => ?_)
  have hP : va_P G.1 vwCl ((([(h0, .inr (4, [.ref q7, .ref q15, .null, .null, .int 0]))]) ++ [(q7, .inl (G.2.1, 8, .inl (fun _ => 0)))]) ++ [(q15, .inl (G.2.1, 8, .inl (fun _ => 0)))]) H := hP
  have hD : va_D A ((([(h0, .inr (4, [.ref q7, .ref q15, .null, .null, .int 0]))]) ++ [(q7, .inl (G.2.1, 8, .inl (fun _ => 0)))]) ++ [(q15, .inl (G.2.1, 8, .inl (fun _ => 0)))]) := hD
  refine lv_aload_n hx hb d_Pg_init_20 rfl (lv_at hl 0 rfl) ?_
  refine lv_bipush (v := (8 : Int32)) hx hb d_Pg_init_21 (by decide) ?_
  refine knewI (N' := 8) hx hb (hts _ k_49) hK hP hD hS hA (by decide +kernel) (by decide +kernel) (Nat.le_of_ble_eq_true rfl) (Nat.le_of_ble_eq_true rfl) (Nat.le_of_ble_eq_true rfl) d_Pg_init_23 (fun q23 H hP hD hS => ?_)
  have hP : va_P G.1 vwCl (((([(h0, .inr (4, [.ref q7, .ref q15, .null, .null, .int 0]))]) ++ [(q7, .inl (G.2.1, 8, .inl (fun _ => 0)))]) ++ [(q15, .inl (G.2.1, 8, .inl (fun _ => 0)))]) ++ [(q23, .inl (G.2.1, 8, .inl (fun _ => 0)))]) H := hP
  have hD : va_D A (((([(h0, .inr (4, [.ref q7, .ref q15, .null, .null, .int 0]))]) ++ [(q7, .inl (G.2.1, 8, .inl (fun _ => 0)))]) ++ [(q15, .inl (G.2.1, 8, .inl (fun _ => 0)))]) ++ [(q23, .inl (G.2.1, 8, .inl (fun _ => 0)))]) := hD
  refine va_putF (D := G.1) (ci := 4) (v := .ref q23) (C := R_Pg) (T := T_Pg) (N := 5) hx hb hts in_Pg ty_Pg ty_Pg_ok nm_Pg hown hK hP hD hS 0 rfl rfl 2 (by decide) (hts _ k_35) (fun _ h9 => h9) rfl hin rfl (ty_Pg_ok 2 (by decide)) rfl rfl (Nat.le_of_ble_eq_true rfl) d_Pg_init_25 (fun H locs hP hD hS => ?_)
  have hP : va_P G.1 vwCl (((([(h0, .inr (4, [.ref q7, .ref q15, .ref q23, .null, .int 0]))]) ++ [(q7, .inl (G.2.1, 8, .inl (fun _ => 0)))]) ++ [(q15, .inl (G.2.1, 8, .inl (fun _ => 0)))]) ++ [(q23, .inl (G.2.1, 8, .inl (fun _ => 0)))]) H := hP
  have hD : va_D A (((([(h0, .inr (4, [.ref q7, .ref q15, .ref q23, .null, .int 0]))]) ++ [(q7, .inl (G.2.1, 8, .inl (fun _ => 0)))]) ++ [(q15, .inl (G.2.1, 8, .inl (fun _ => 0)))]) ++ [(q23, .inl (G.2.1, 8, .inl (fun _ => 0)))]) := hD
  refine lv_aload_n hx hb d_Pg_init_28 rfl (lv_at hl 0 rfl) ?_
  refine lv_bipush (v := (8 : Int32)) hx hb d_Pg_init_29 (by decide) ?_
  refine knewI (N' := 8) hx hb (hts _ k_49) hK hP hD hS hA (by decide +kernel) (by decide +kernel) (Nat.le_of_ble_eq_true rfl) (Nat.le_of_ble_eq_true rfl) (Nat.le_of_ble_eq_true rfl) d_Pg_init_31 (fun q31 H hP hD hS => ?_)
  have hP : va_P G.1 vwCl ((((([(h0, .inr (4, [.ref q7, .ref q15, .ref q23, .null, .int 0]))]) ++ [(q7, .inl (G.2.1, 8, .inl (fun _ => 0)))]) ++ [(q15, .inl (G.2.1, 8, .inl (fun _ => 0)))]) ++ [(q23, .inl (G.2.1, 8, .inl (fun _ => 0)))]) ++ [(q31, .inl (G.2.1, 8, .inl (fun _ => 0)))]) H := hP
  have hD : va_D A ((((([(h0, .inr (4, [.ref q7, .ref q15, .ref q23, .null, .int 0]))]) ++ [(q7, .inl (G.2.1, 8, .inl (fun _ => 0)))]) ++ [(q15, .inl (G.2.1, 8, .inl (fun _ => 0)))]) ++ [(q23, .inl (G.2.1, 8, .inl (fun _ => 0)))]) ++ [(q31, .inl (G.2.1, 8, .inl (fun _ => 0)))]) := hD
  refine va_putF (D := G.1) (ci := 4) (v := .ref q31) (C := R_Pg) (T := T_Pg) (N := 5) hx hb hts in_Pg ty_Pg ty_Pg_ok nm_Pg hown hK hP hD hS 0 rfl rfl 3 (by decide) (hts _ k_36) (fun _ h9 => h9) rfl hin rfl (ty_Pg_ok 3 (by decide)) rfl rfl (Nat.le_of_ble_eq_true rfl) d_Pg_init_33 (fun H locs hP hD hS => ?_)
  have hP : va_P G.1 vwCl ((((([(h0, .inr (4, [.ref q7, .ref q15, .ref q23, .ref q31, .int 0]))]) ++ [(q7, .inl (G.2.1, 8, .inl (fun _ => 0)))]) ++ [(q15, .inl (G.2.1, 8, .inl (fun _ => 0)))]) ++ [(q23, .inl (G.2.1, 8, .inl (fun _ => 0)))]) ++ [(q31, .inl (G.2.1, 8, .inl (fun _ => 0)))]) H := hP
  have hD : va_D A ((((([(h0, .inr (4, [.ref q7, .ref q15, .ref q23, .ref q31, .int 0]))]) ++ [(q7, .inl (G.2.1, 8, .inl (fun _ => 0)))]) ++ [(q15, .inl (G.2.1, 8, .inl (fun _ => 0)))]) ++ [(q23, .inl (G.2.1, 8, .inl (fun _ => 0)))]) ++ [(q31, .inl (G.2.1, 8, .inl (fun _ => 0)))]) := hD
  refine lv_aload_n hx hb d_Pg_init_36 rfl (lv_at hl 0 rfl) ?_
  refine lv_iconst (v := (0 : Int32)) hx hb d_Pg_init_37 (by decide) ?_
  refine va_put (D := G.1) (ci := 4) (v := .int (0 : Int32)) (C := R_Pg) (T := T_Pg) (N := 5) hx hb hts in_Pg ty_Pg ty_Pg_ok nm_Pg hown hK hP hD hS 0 rfl rfl 4 (by decide) (hts _ k_37) (fun _ h9 => h9) rfl (ty_Pg_ok 4 (by decide)) rfl rfl (Nat.le_of_ble_eq_true rfl) d_Pg_init_38 (fun H locs hP hD hS => ?_)
  have hP : va_P G.1 vwCl ((((([(h0, .inr (4, [.ref q7, .ref q15, .ref q23, .ref q31, .int (0 : Int32)]))]) ++ [(q7, .inl (G.2.1, 8, .inl (fun _ => 0)))]) ++ [(q15, .inl (G.2.1, 8, .inl (fun _ => 0)))]) ++ [(q23, .inl (G.2.1, 8, .inl (fun _ => 0)))]) ++ [(q31, .inl (G.2.1, 8, .inl (fun _ => 0)))]) H := hP
  have hD : va_D A ((((([(h0, .inr (4, [.ref q7, .ref q15, .ref q23, .ref q31, .int (0 : Int32)]))]) ++ [(q7, .inl (G.2.1, 8, .inl (fun _ => 0)))]) ++ [(q15, .inl (G.2.1, 8, .inl (fun _ => 0)))]) ++ [(q23, .inl (G.2.1, 8, .inl (fun _ => 0)))]) ++ [(q31, .inl (G.2.1, 8, .inl (fun _ => 0)))]) := hD
  refine W.widen (k := 4) (n := 32) (Nat.le_of_ble_eq_true rfl) (Nat.le_of_ble_eq_true rfl) ?_
  have hP : va_P G.1 vwCl (W_Pg G (fun j => if j = 0 then h0 else if j < 2 then q7 else if j < 3 then q15 else if j < 4 then q23 else q31) Pg0) H := hP
  have hD : va_D A (W_Pg G (fun j => if j = 0 then h0 else if j < 2 then q7 else if j < 3 then q15 else if j < 4 then q23 else q31) Pg0) := hD
  exact kC (u := (fun j => if j = 0 then h0 else if j < 2 then q7 else if j < 3 then q15 else if j < 4 then q23 else q31)) hx hb hr hlk hP hD hS rfl d_Pg_init_41

set_option maxHeartbeats 4000000 in
set_option maxRecDepth 100000 in
theorem t_Dy_init (l : Launch) (G : GG) (h0 : Nat) : MC (S := Nat → Nat) l G y_Dy_init c_Dy_init 1 { frames := 1, cells := 7, slots := 2107, locals := 12 } ([(h0, .inr (0, [.null, .null, .null, .null, .null, .null, .null, .int 0, .int 0]))]) h0 (fun u => W_Dy G u Dy0) (fun u => u 0) := by
  refine ofC "FloodDiary$Diary" (by decide +kernel) rfl rfl (Nat.le_of_ble_eq_true rfl) (fun p e s m args below meth c A ls hx hb hr hml hown hin hts hlk hK hN hA hP hD hS hl => ?_)
  have hl : lv_has ls 1 [(0, .ref h0)] := hl
  refine lv_aload_n hx hb d_Dy_init_0 rfl (lv_at hl 0 rfl) ?_
  refine W.objInit (own := "FloodDiary$Diary") (idx := 3) hx hb hown (hts _ k_55) (hts _ k_19) (hts _ k_20) rfl (by rw [hml]; exact hl.1) rfl d_Dy_init_1 (Nat.le_of_ble_eq_true rfl) (Nat.le_of_ble_eq_true rfl) ?_
  refine W.eq (g2 := F0 m 4 ls []) rfl ?_
  refine lv_aload_n hx hb d_Dy_init_4 rfl (lv_at hl 0 rfl) ?_
  refine lv_sipush (v := (301 : Int32)) hx hb d_Dy_init_5 (by decide) ?_
  refine knewI (N' := 301) hx hb (hts _ k_49) hK hP hD hS hA (by decide +kernel) (by decide +kernel) (Nat.le_of_ble_eq_true rfl) (Nat.le_of_ble_eq_true rfl) (Nat.le_of_ble_eq_true rfl) d_Dy_init_8 (fun q8 H hP hD hS => ?_)
  have hP : va_P G.1 vwCl (([(h0, .inr (0, [.null, .null, .null, .null, .null, .null, .null, .int 0, .int 0]))]) ++ [(q8, .inl (G.2.1, 301, .inl (fun _ => 0)))]) H := hP
  have hD : va_D A (([(h0, .inr (0, [.null, .null, .null, .null, .null, .null, .null, .int 0, .int 0]))]) ++ [(q8, .inl (G.2.1, 301, .inl (fun _ => 0)))]) := hD
  refine va_putF (D := G.1) (ci := 0) (v := .ref q8) (C := R_Dy) (T := T_Dy) (N := 9) hx hb hts in_Dy ty_Dy ty_Dy_ok nm_Dy hown hK hP hD hS 0 rfl rfl 0 (by decide) (hts _ k_56) (fun _ h9 => h9) rfl hin rfl (ty_Dy_ok 0 (by decide)) rfl rfl (Nat.le_of_ble_eq_true rfl) d_Dy_init_10 (fun H locs hP hD hS => ?_)
  have hP : va_P G.1 vwCl (([(h0, .inr (0, [.ref q8, .null, .null, .null, .null, .null, .null, .int 0, .int 0]))]) ++ [(q8, .inl (G.2.1, 301, .inl (fun _ => 0)))]) H := hP
  have hD : va_D A (([(h0, .inr (0, [.ref q8, .null, .null, .null, .null, .null, .null, .int 0, .int 0]))]) ++ [(q8, .inl (G.2.1, 301, .inl (fun _ => 0)))]) := hD
  refine lv_aload_n hx hb d_Dy_init_13 rfl (lv_at hl 0 rfl) ?_
  refine lv_sipush (v := (301 : Int32)) hx hb d_Dy_init_14 (by decide) ?_
  refine knewI (N' := 301) hx hb (hts _ k_49) hK hP hD hS hA (by decide +kernel) (by decide +kernel) (Nat.le_of_ble_eq_true rfl) (Nat.le_of_ble_eq_true rfl) (Nat.le_of_ble_eq_true rfl) d_Dy_init_17 (fun q17 H hP hD hS => ?_)
  have hP : va_P G.1 vwCl ((([(h0, .inr (0, [.ref q8, .null, .null, .null, .null, .null, .null, .int 0, .int 0]))]) ++ [(q8, .inl (G.2.1, 301, .inl (fun _ => 0)))]) ++ [(q17, .inl (G.2.1, 301, .inl (fun _ => 0)))]) H := hP
  have hD : va_D A ((([(h0, .inr (0, [.ref q8, .null, .null, .null, .null, .null, .null, .int 0, .int 0]))]) ++ [(q8, .inl (G.2.1, 301, .inl (fun _ => 0)))]) ++ [(q17, .inl (G.2.1, 301, .inl (fun _ => 0)))]) := hD
  refine va_putF (D := G.1) (ci := 0) (v := .ref q17) (C := R_Dy) (T := T_Dy) (N := 9) hx hb hts in_Dy ty_Dy ty_Dy_ok nm_Dy hown hK hP hD hS 0 rfl rfl 1 (by decide) (hts _ k_57) (fun _ h9 => h9) rfl hin rfl (ty_Dy_ok 1 (by decide)) rfl rfl (Nat.le_of_ble_eq_true rfl) d_Dy_init_19 (fun H locs hP hD hS => ?_)
  have hP : va_P G.1 vwCl ((([(h0, .inr (0, [.ref q8, .ref q17, .null, .null, .null, .null, .null, .int 0, .int 0]))]) ++ [(q8, .inl (G.2.1, 301, .inl (fun _ => 0)))]) ++ [(q17, .inl (G.2.1, 301, .inl (fun _ => 0)))]) H := hP
  have hD : va_D A ((([(h0, .inr (0, [.ref q8, .ref q17, .null, .null, .null, .null, .null, .int 0, .int 0]))]) ++ [(q8, .inl (G.2.1, 301, .inl (fun _ => 0)))]) ++ [(q17, .inl (G.2.1, 301, .inl (fun _ => 0)))]) := hD
  refine lv_aload_n hx hb d_Dy_init_22 rfl (lv_at hl 0 rfl) ?_
  refine lv_sipush (v := (301 : Int32)) hx hb d_Dy_init_23 (by decide) ?_
  refine knewI (N' := 301) hx hb (hts _ k_49) hK hP hD hS hA (by decide +kernel) (by decide +kernel) (Nat.le_of_ble_eq_true rfl) (Nat.le_of_ble_eq_true rfl) (Nat.le_of_ble_eq_true rfl) d_Dy_init_26 (fun q26 H hP hD hS => ?_)
  have hP : va_P G.1 vwCl (((([(h0, .inr (0, [.ref q8, .ref q17, .null, .null, .null, .null, .null, .int 0, .int 0]))]) ++ [(q8, .inl (G.2.1, 301, .inl (fun _ => 0)))]) ++ [(q17, .inl (G.2.1, 301, .inl (fun _ => 0)))]) ++ [(q26, .inl (G.2.1, 301, .inl (fun _ => 0)))]) H := hP
  have hD : va_D A (((([(h0, .inr (0, [.ref q8, .ref q17, .null, .null, .null, .null, .null, .int 0, .int 0]))]) ++ [(q8, .inl (G.2.1, 301, .inl (fun _ => 0)))]) ++ [(q17, .inl (G.2.1, 301, .inl (fun _ => 0)))]) ++ [(q26, .inl (G.2.1, 301, .inl (fun _ => 0)))]) := hD
  refine va_putF (D := G.1) (ci := 0) (v := .ref q26) (C := R_Dy) (T := T_Dy) (N := 9) hx hb hts in_Dy ty_Dy ty_Dy_ok nm_Dy hown hK hP hD hS 0 rfl rfl 2 (by decide) (hts _ k_58) (fun _ h9 => h9) rfl hin rfl (ty_Dy_ok 2 (by decide)) rfl rfl (Nat.le_of_ble_eq_true rfl) d_Dy_init_28 (fun H locs hP hD hS => ?_)
  have hP : va_P G.1 vwCl (((([(h0, .inr (0, [.ref q8, .ref q17, .ref q26, .null, .null, .null, .null, .int 0, .int 0]))]) ++ [(q8, .inl (G.2.1, 301, .inl (fun _ => 0)))]) ++ [(q17, .inl (G.2.1, 301, .inl (fun _ => 0)))]) ++ [(q26, .inl (G.2.1, 301, .inl (fun _ => 0)))]) H := hP
  have hD : va_D A (((([(h0, .inr (0, [.ref q8, .ref q17, .ref q26, .null, .null, .null, .null, .int 0, .int 0]))]) ++ [(q8, .inl (G.2.1, 301, .inl (fun _ => 0)))]) ++ [(q17, .inl (G.2.1, 301, .inl (fun _ => 0)))]) ++ [(q26, .inl (G.2.1, 301, .inl (fun _ => 0)))]) := hD
  refine lv_aload_n hx hb d_Dy_init_31 rfl (lv_at hl 0 rfl) ?_
  refine lv_sipush (v := (301 : Int32)) hx hb d_Dy_init_32 (by decide) ?_
  refine knewI (N' := 301) hx hb (hts _ k_49) hK hP hD hS hA (by decide +kernel) (by decide +kernel) (Nat.le_of_ble_eq_true rfl) (Nat.le_of_ble_eq_true rfl) (Nat.le_of_ble_eq_true rfl) d_Dy_init_35 (fun q35 H hP hD hS => ?_)
  have hP : va_P G.1 vwCl ((((([(h0, .inr (0, [.ref q8, .ref q17, .ref q26, .null, .null, .null, .null, .int 0, .int 0]))]) ++ [(q8, .inl (G.2.1, 301, .inl (fun _ => 0)))]) ++ [(q17, .inl (G.2.1, 301, .inl (fun _ => 0)))]) ++ [(q26, .inl (G.2.1, 301, .inl (fun _ => 0)))]) ++ [(q35, .inl (G.2.1, 301, .inl (fun _ => 0)))]) H := hP
  have hD : va_D A ((((([(h0, .inr (0, [.ref q8, .ref q17, .ref q26, .null, .null, .null, .null, .int 0, .int 0]))]) ++ [(q8, .inl (G.2.1, 301, .inl (fun _ => 0)))]) ++ [(q17, .inl (G.2.1, 301, .inl (fun _ => 0)))]) ++ [(q26, .inl (G.2.1, 301, .inl (fun _ => 0)))]) ++ [(q35, .inl (G.2.1, 301, .inl (fun _ => 0)))]) := hD
  refine va_putF (D := G.1) (ci := 0) (v := .ref q35) (C := R_Dy) (T := T_Dy) (N := 9) hx hb hts in_Dy ty_Dy ty_Dy_ok nm_Dy hown hK hP hD hS 0 rfl rfl 3 (by decide) (hts _ k_59) (fun _ h9 => h9) rfl hin rfl (ty_Dy_ok 3 (by decide)) rfl rfl (Nat.le_of_ble_eq_true rfl) d_Dy_init_37 (fun H locs hP hD hS => ?_)
  have hP : va_P G.1 vwCl ((((([(h0, .inr (0, [.ref q8, .ref q17, .ref q26, .ref q35, .null, .null, .null, .int 0, .int 0]))]) ++ [(q8, .inl (G.2.1, 301, .inl (fun _ => 0)))]) ++ [(q17, .inl (G.2.1, 301, .inl (fun _ => 0)))]) ++ [(q26, .inl (G.2.1, 301, .inl (fun _ => 0)))]) ++ [(q35, .inl (G.2.1, 301, .inl (fun _ => 0)))]) H := hP
  have hD : va_D A ((((([(h0, .inr (0, [.ref q8, .ref q17, .ref q26, .ref q35, .null, .null, .null, .int 0, .int 0]))]) ++ [(q8, .inl (G.2.1, 301, .inl (fun _ => 0)))]) ++ [(q17, .inl (G.2.1, 301, .inl (fun _ => 0)))]) ++ [(q26, .inl (G.2.1, 301, .inl (fun _ => 0)))]) ++ [(q35, .inl (G.2.1, 301, .inl (fun _ => 0)))]) := hD
  refine lv_aload_n hx hb d_Dy_init_40 rfl (lv_at hl 0 rfl) ?_
  refine lv_sipush (v := (301 : Int32)) hx hb d_Dy_init_41 (by decide) ?_
  refine knewI (N' := 301) hx hb (hts _ k_49) hK hP hD hS hA (by decide +kernel) (by decide +kernel) (Nat.le_of_ble_eq_true rfl) (Nat.le_of_ble_eq_true rfl) (Nat.le_of_ble_eq_true rfl) d_Dy_init_44 (fun q44 H hP hD hS => ?_)
  have hP : va_P G.1 vwCl (((((([(h0, .inr (0, [.ref q8, .ref q17, .ref q26, .ref q35, .null, .null, .null, .int 0, .int 0]))]) ++ [(q8, .inl (G.2.1, 301, .inl (fun _ => 0)))]) ++ [(q17, .inl (G.2.1, 301, .inl (fun _ => 0)))]) ++ [(q26, .inl (G.2.1, 301, .inl (fun _ => 0)))]) ++ [(q35, .inl (G.2.1, 301, .inl (fun _ => 0)))]) ++ [(q44, .inl (G.2.1, 301, .inl (fun _ => 0)))]) H := hP
  have hD : va_D A (((((([(h0, .inr (0, [.ref q8, .ref q17, .ref q26, .ref q35, .null, .null, .null, .int 0, .int 0]))]) ++ [(q8, .inl (G.2.1, 301, .inl (fun _ => 0)))]) ++ [(q17, .inl (G.2.1, 301, .inl (fun _ => 0)))]) ++ [(q26, .inl (G.2.1, 301, .inl (fun _ => 0)))]) ++ [(q35, .inl (G.2.1, 301, .inl (fun _ => 0)))]) ++ [(q44, .inl (G.2.1, 301, .inl (fun _ => 0)))]) := hD
  refine va_putF (D := G.1) (ci := 0) (v := .ref q44) (C := R_Dy) (T := T_Dy) (N := 9) hx hb hts in_Dy ty_Dy ty_Dy_ok nm_Dy hown hK hP hD hS 0 rfl rfl 4 (by decide) (hts _ k_60) (fun _ h9 => h9) rfl hin rfl (ty_Dy_ok 4 (by decide)) rfl rfl (Nat.le_of_ble_eq_true rfl) d_Dy_init_46 (fun H locs hP hD hS => ?_)
  have hP : va_P G.1 vwCl (((((([(h0, .inr (0, [.ref q8, .ref q17, .ref q26, .ref q35, .ref q44, .null, .null, .int 0, .int 0]))]) ++ [(q8, .inl (G.2.1, 301, .inl (fun _ => 0)))]) ++ [(q17, .inl (G.2.1, 301, .inl (fun _ => 0)))]) ++ [(q26, .inl (G.2.1, 301, .inl (fun _ => 0)))]) ++ [(q35, .inl (G.2.1, 301, .inl (fun _ => 0)))]) ++ [(q44, .inl (G.2.1, 301, .inl (fun _ => 0)))]) H := hP
  have hD : va_D A (((((([(h0, .inr (0, [.ref q8, .ref q17, .ref q26, .ref q35, .ref q44, .null, .null, .int 0, .int 0]))]) ++ [(q8, .inl (G.2.1, 301, .inl (fun _ => 0)))]) ++ [(q17, .inl (G.2.1, 301, .inl (fun _ => 0)))]) ++ [(q26, .inl (G.2.1, 301, .inl (fun _ => 0)))]) ++ [(q35, .inl (G.2.1, 301, .inl (fun _ => 0)))]) ++ [(q44, .inl (G.2.1, 301, .inl (fun _ => 0)))]) := hD
  refine lv_aload_n hx hb d_Dy_init_49 rfl (lv_at hl 0 rfl) ?_
  refine lv_sipush (v := (301 : Int32)) hx hb d_Dy_init_50 (by decide) ?_
  refine knewI (N' := 301) hx hb (hts _ k_49) hK hP hD hS hA (by decide +kernel) (by decide +kernel) (Nat.le_of_ble_eq_true rfl) (Nat.le_of_ble_eq_true rfl) (Nat.le_of_ble_eq_true rfl) d_Dy_init_53 (fun q53 H hP hD hS => ?_)
  have hP : va_P G.1 vwCl ((((((([(h0, .inr (0, [.ref q8, .ref q17, .ref q26, .ref q35, .ref q44, .null, .null, .int 0, .int 0]))]) ++ [(q8, .inl (G.2.1, 301, .inl (fun _ => 0)))]) ++ [(q17, .inl (G.2.1, 301, .inl (fun _ => 0)))]) ++ [(q26, .inl (G.2.1, 301, .inl (fun _ => 0)))]) ++ [(q35, .inl (G.2.1, 301, .inl (fun _ => 0)))]) ++ [(q44, .inl (G.2.1, 301, .inl (fun _ => 0)))]) ++ [(q53, .inl (G.2.1, 301, .inl (fun _ => 0)))]) H := hP
  have hD : va_D A ((((((([(h0, .inr (0, [.ref q8, .ref q17, .ref q26, .ref q35, .ref q44, .null, .null, .int 0, .int 0]))]) ++ [(q8, .inl (G.2.1, 301, .inl (fun _ => 0)))]) ++ [(q17, .inl (G.2.1, 301, .inl (fun _ => 0)))]) ++ [(q26, .inl (G.2.1, 301, .inl (fun _ => 0)))]) ++ [(q35, .inl (G.2.1, 301, .inl (fun _ => 0)))]) ++ [(q44, .inl (G.2.1, 301, .inl (fun _ => 0)))]) ++ [(q53, .inl (G.2.1, 301, .inl (fun _ => 0)))]) := hD
  refine va_putF (D := G.1) (ci := 0) (v := .ref q53) (C := R_Dy) (T := T_Dy) (N := 9) hx hb hts in_Dy ty_Dy ty_Dy_ok nm_Dy hown hK hP hD hS 0 rfl rfl 5 (by decide) (hts _ k_61) (fun _ h9 => h9) rfl hin rfl (ty_Dy_ok 5 (by decide)) rfl rfl (Nat.le_of_ble_eq_true rfl) d_Dy_init_55 (fun H locs hP hD hS => ?_)
  have hP : va_P G.1 vwCl ((((((([(h0, .inr (0, [.ref q8, .ref q17, .ref q26, .ref q35, .ref q44, .ref q53, .null, .int 0, .int 0]))]) ++ [(q8, .inl (G.2.1, 301, .inl (fun _ => 0)))]) ++ [(q17, .inl (G.2.1, 301, .inl (fun _ => 0)))]) ++ [(q26, .inl (G.2.1, 301, .inl (fun _ => 0)))]) ++ [(q35, .inl (G.2.1, 301, .inl (fun _ => 0)))]) ++ [(q44, .inl (G.2.1, 301, .inl (fun _ => 0)))]) ++ [(q53, .inl (G.2.1, 301, .inl (fun _ => 0)))]) H := hP
  have hD : va_D A ((((((([(h0, .inr (0, [.ref q8, .ref q17, .ref q26, .ref q35, .ref q44, .ref q53, .null, .int 0, .int 0]))]) ++ [(q8, .inl (G.2.1, 301, .inl (fun _ => 0)))]) ++ [(q17, .inl (G.2.1, 301, .inl (fun _ => 0)))]) ++ [(q26, .inl (G.2.1, 301, .inl (fun _ => 0)))]) ++ [(q35, .inl (G.2.1, 301, .inl (fun _ => 0)))]) ++ [(q44, .inl (G.2.1, 301, .inl (fun _ => 0)))]) ++ [(q53, .inl (G.2.1, 301, .inl (fun _ => 0)))]) := hD
  refine lv_aload_n hx hb d_Dy_init_58 rfl (lv_at hl 0 rfl) ?_
  refine lv_sipush (v := (301 : Int32)) hx hb d_Dy_init_59 (by decide) ?_
  refine knewI (N' := 301) hx hb (hts _ k_49) hK hP hD hS hA (by decide +kernel) (by decide +kernel) (Nat.le_of_ble_eq_true rfl) (Nat.le_of_ble_eq_true rfl) (Nat.le_of_ble_eq_true rfl) d_Dy_init_62 (fun q62 H hP hD hS => ?_)
  have hP : va_P G.1 vwCl (((((((([(h0, .inr (0, [.ref q8, .ref q17, .ref q26, .ref q35, .ref q44, .ref q53, .null, .int 0, .int 0]))]) ++ [(q8, .inl (G.2.1, 301, .inl (fun _ => 0)))]) ++ [(q17, .inl (G.2.1, 301, .inl (fun _ => 0)))]) ++ [(q26, .inl (G.2.1, 301, .inl (fun _ => 0)))]) ++ [(q35, .inl (G.2.1, 301, .inl (fun _ => 0)))]) ++ [(q44, .inl (G.2.1, 301, .inl (fun _ => 0)))]) ++ [(q53, .inl (G.2.1, 301, .inl (fun _ => 0)))]) ++ [(q62, .inl (G.2.1, 301, .inl (fun _ => 0)))]) H := hP
  have hD : va_D A (((((((([(h0, .inr (0, [.ref q8, .ref q17, .ref q26, .ref q35, .ref q44, .ref q53, .null, .int 0, .int 0]))]) ++ [(q8, .inl (G.2.1, 301, .inl (fun _ => 0)))]) ++ [(q17, .inl (G.2.1, 301, .inl (fun _ => 0)))]) ++ [(q26, .inl (G.2.1, 301, .inl (fun _ => 0)))]) ++ [(q35, .inl (G.2.1, 301, .inl (fun _ => 0)))]) ++ [(q44, .inl (G.2.1, 301, .inl (fun _ => 0)))]) ++ [(q53, .inl (G.2.1, 301, .inl (fun _ => 0)))]) ++ [(q62, .inl (G.2.1, 301, .inl (fun _ => 0)))]) := hD
  refine va_putF (D := G.1) (ci := 0) (v := .ref q62) (C := R_Dy) (T := T_Dy) (N := 9) hx hb hts in_Dy ty_Dy ty_Dy_ok nm_Dy hown hK hP hD hS 0 rfl rfl 6 (by decide) (hts _ k_62) (fun _ h9 => h9) rfl hin rfl (ty_Dy_ok 6 (by decide)) rfl rfl (Nat.le_of_ble_eq_true rfl) d_Dy_init_64 (fun H locs hP hD hS => ?_)
  have hP : va_P G.1 vwCl (((((((([(h0, .inr (0, [.ref q8, .ref q17, .ref q26, .ref q35, .ref q44, .ref q53, .ref q62, .int 0, .int 0]))]) ++ [(q8, .inl (G.2.1, 301, .inl (fun _ => 0)))]) ++ [(q17, .inl (G.2.1, 301, .inl (fun _ => 0)))]) ++ [(q26, .inl (G.2.1, 301, .inl (fun _ => 0)))]) ++ [(q35, .inl (G.2.1, 301, .inl (fun _ => 0)))]) ++ [(q44, .inl (G.2.1, 301, .inl (fun _ => 0)))]) ++ [(q53, .inl (G.2.1, 301, .inl (fun _ => 0)))]) ++ [(q62, .inl (G.2.1, 301, .inl (fun _ => 0)))]) H := hP
  have hD : va_D A (((((((([(h0, .inr (0, [.ref q8, .ref q17, .ref q26, .ref q35, .ref q44, .ref q53, .ref q62, .int 0, .int 0]))]) ++ [(q8, .inl (G.2.1, 301, .inl (fun _ => 0)))]) ++ [(q17, .inl (G.2.1, 301, .inl (fun _ => 0)))]) ++ [(q26, .inl (G.2.1, 301, .inl (fun _ => 0)))]) ++ [(q35, .inl (G.2.1, 301, .inl (fun _ => 0)))]) ++ [(q44, .inl (G.2.1, 301, .inl (fun _ => 0)))]) ++ [(q53, .inl (G.2.1, 301, .inl (fun _ => 0)))]) ++ [(q62, .inl (G.2.1, 301, .inl (fun _ => 0)))]) := hD
  refine lv_aload_n hx hb d_Dy_init_67 rfl (lv_at hl 0 rfl) ?_
  refine lv_iconst (v := (0 : Int32)) hx hb d_Dy_init_68 (by decide) ?_
  refine va_put (D := G.1) (ci := 0) (v := .int (0 : Int32)) (C := R_Dy) (T := T_Dy) (N := 9) hx hb hts in_Dy ty_Dy ty_Dy_ok nm_Dy hown hK hP hD hS 0 rfl rfl 7 (by decide) (hts _ k_63) (fun _ h9 => h9) rfl (ty_Dy_ok 7 (by decide)) rfl rfl (Nat.le_of_ble_eq_true rfl) d_Dy_init_69 (fun H locs hP hD hS => ?_)
  have hP : va_P G.1 vwCl (((((((([(h0, .inr (0, [.ref q8, .ref q17, .ref q26, .ref q35, .ref q44, .ref q53, .ref q62, .int (0 : Int32), .int 0]))]) ++ [(q8, .inl (G.2.1, 301, .inl (fun _ => 0)))]) ++ [(q17, .inl (G.2.1, 301, .inl (fun _ => 0)))]) ++ [(q26, .inl (G.2.1, 301, .inl (fun _ => 0)))]) ++ [(q35, .inl (G.2.1, 301, .inl (fun _ => 0)))]) ++ [(q44, .inl (G.2.1, 301, .inl (fun _ => 0)))]) ++ [(q53, .inl (G.2.1, 301, .inl (fun _ => 0)))]) ++ [(q62, .inl (G.2.1, 301, .inl (fun _ => 0)))]) H := hP
  have hD : va_D A (((((((([(h0, .inr (0, [.ref q8, .ref q17, .ref q26, .ref q35, .ref q44, .ref q53, .ref q62, .int (0 : Int32), .int 0]))]) ++ [(q8, .inl (G.2.1, 301, .inl (fun _ => 0)))]) ++ [(q17, .inl (G.2.1, 301, .inl (fun _ => 0)))]) ++ [(q26, .inl (G.2.1, 301, .inl (fun _ => 0)))]) ++ [(q35, .inl (G.2.1, 301, .inl (fun _ => 0)))]) ++ [(q44, .inl (G.2.1, 301, .inl (fun _ => 0)))]) ++ [(q53, .inl (G.2.1, 301, .inl (fun _ => 0)))]) ++ [(q62, .inl (G.2.1, 301, .inl (fun _ => 0)))]) := hD
  refine lv_aload_n hx hb d_Dy_init_72 rfl (lv_at hl 0 rfl) ?_
  refine lv_iconst (v := (0 : Int32)) hx hb d_Dy_init_73 (by decide) ?_
  refine va_put (D := G.1) (ci := 0) (v := .int (0 : Int32)) (C := R_Dy) (T := T_Dy) (N := 9) hx hb hts in_Dy ty_Dy ty_Dy_ok nm_Dy hown hK hP hD hS 0 rfl rfl 8 (by decide) (hts _ k_67) (fun _ h9 => h9) rfl (ty_Dy_ok 8 (by decide)) rfl rfl (Nat.le_of_ble_eq_true rfl) d_Dy_init_74 (fun H locs hP hD hS => ?_)
  have hP : va_P G.1 vwCl (((((((([(h0, .inr (0, [.ref q8, .ref q17, .ref q26, .ref q35, .ref q44, .ref q53, .ref q62, .int (0 : Int32), .int (0 : Int32)]))]) ++ [(q8, .inl (G.2.1, 301, .inl (fun _ => 0)))]) ++ [(q17, .inl (G.2.1, 301, .inl (fun _ => 0)))]) ++ [(q26, .inl (G.2.1, 301, .inl (fun _ => 0)))]) ++ [(q35, .inl (G.2.1, 301, .inl (fun _ => 0)))]) ++ [(q44, .inl (G.2.1, 301, .inl (fun _ => 0)))]) ++ [(q53, .inl (G.2.1, 301, .inl (fun _ => 0)))]) ++ [(q62, .inl (G.2.1, 301, .inl (fun _ => 0)))]) H := hP
  have hD : va_D A (((((((([(h0, .inr (0, [.ref q8, .ref q17, .ref q26, .ref q35, .ref q44, .ref q53, .ref q62, .int (0 : Int32), .int (0 : Int32)]))]) ++ [(q8, .inl (G.2.1, 301, .inl (fun _ => 0)))]) ++ [(q17, .inl (G.2.1, 301, .inl (fun _ => 0)))]) ++ [(q26, .inl (G.2.1, 301, .inl (fun _ => 0)))]) ++ [(q35, .inl (G.2.1, 301, .inl (fun _ => 0)))]) ++ [(q44, .inl (G.2.1, 301, .inl (fun _ => 0)))]) ++ [(q53, .inl (G.2.1, 301, .inl (fun _ => 0)))]) ++ [(q62, .inl (G.2.1, 301, .inl (fun _ => 0)))]) := hD
  refine W.widen (k := 7) (n := 2107) (Nat.le_of_ble_eq_true rfl) (Nat.le_of_ble_eq_true rfl) ?_
  have hP : va_P G.1 vwCl (W_Dy G (fun j => if j = 0 then h0 else if j < 2 then q8 else if j < 3 then q17 else if j < 4 then q26 else if j < 5 then q35 else if j < 6 then q44 else if j < 7 then q53 else q62) Dy0) H := hP
  have hD : va_D A (W_Dy G (fun j => if j = 0 then h0 else if j < 2 then q8 else if j < 3 then q17 else if j < 4 then q26 else if j < 5 then q35 else if j < 6 then q44 else if j < 7 then q53 else q62) Dy0) := hD
  exact kC (u := (fun j => if j = 0 then h0 else if j < 2 then q8 else if j < 3 then q17 else if j < 4 then q26 else if j < 5 then q35 else if j < 6 then q44 else if j < 7 then q53 else q62)) hx hb hr hlk hP hD hS rfl d_Dy_init_77

set_option maxHeartbeats 4000000 in
set_option maxRecDepth 100000 in
theorem t_Wk_init (l : Launch) (G : GG) (h0 : Nat) : MC (S := Nat → Nat) l G y_Wk_init c_Wk_init 1 { frames := 1, cells := 5, slots := 80, locals := 12 } ([(h0, .inr (7, [.null, .null, .null, .null, .null, .int 0]))]) h0 (fun u => W_Wk G u Wk0) (fun u => u 0) := by
  refine ofC "FloodDiary$Works" (by decide +kernel) rfl rfl (Nat.le_of_ble_eq_true rfl) (fun p e s m args below meth c A ls hx hb hr hml hown hin hts hlk hK hN hA hP hD hS hl => ?_)
  have hl : lv_has ls 1 [(0, .ref h0)] := hl
  refine lv_aload_n hx hb d_Wk_init_0 rfl (lv_at hl 0 rfl) ?_
  refine W.objInit (own := "FloodDiary$Works") (idx := 3) hx hb hown (hts _ k_93) (hts _ k_19) (hts _ k_20) rfl (by rw [hml]; exact hl.1) rfl d_Wk_init_1 (Nat.le_of_ble_eq_true rfl) (Nat.le_of_ble_eq_true rfl) ?_
  refine W.eq (g2 := F0 m 4 ls []) rfl ?_
  refine lv_aload_n hx hb d_Wk_init_4 rfl (lv_at hl 0 rfl) ?_
  refine lv_bipush (v := (16 : Int32)) hx hb d_Wk_init_5 (by decide) ?_
  refine knewI (N' := 16) hx hb (hts _ k_49) hK hP hD hS hA (by decide +kernel) (by decide +kernel) (Nat.le_of_ble_eq_true rfl) (Nat.le_of_ble_eq_true rfl) (Nat.le_of_ble_eq_true rfl) d_Wk_init_7 (fun q7 H hP hD hS => ?_)
  have hP : va_P G.1 vwCl (([(h0, .inr (7, [.null, .null, .null, .null, .null, .int 0]))]) ++ [(q7, .inl (G.2.1, 16, .inl (fun _ => 0)))]) H := hP
  have hD : va_D A (([(h0, .inr (7, [.null, .null, .null, .null, .null, .int 0]))]) ++ [(q7, .inl (G.2.1, 16, .inl (fun _ => 0)))]) := hD
  refine va_putF (D := G.1) (ci := 7) (v := .ref q7) (C := R_Wk) (T := T_Wk) (N := 6) hx hb hts in_Wk ty_Wk ty_Wk_ok nm_Wk hown hK hP hD hS 0 rfl rfl 0 (by decide) (hts _ k_94) (fun _ h9 => h9) rfl hin rfl (ty_Wk_ok 0 (by decide)) rfl rfl (Nat.le_of_ble_eq_true rfl) d_Wk_init_9 (fun H locs hP hD hS => ?_)
  have hP : va_P G.1 vwCl (([(h0, .inr (7, [.ref q7, .null, .null, .null, .null, .int 0]))]) ++ [(q7, .inl (G.2.1, 16, .inl (fun _ => 0)))]) H := hP
  have hD : va_D A (([(h0, .inr (7, [.ref q7, .null, .null, .null, .null, .int 0]))]) ++ [(q7, .inl (G.2.1, 16, .inl (fun _ => 0)))]) := hD
  refine lv_aload_n hx hb d_Wk_init_12 rfl (lv_at hl 0 rfl) ?_
  refine lv_bipush (v := (16 : Int32)) hx hb d_Wk_init_13 (by decide) ?_
  refine knewI (N' := 16) hx hb (hts _ k_49) hK hP hD hS hA (by decide +kernel) (by decide +kernel) (Nat.le_of_ble_eq_true rfl) (Nat.le_of_ble_eq_true rfl) (Nat.le_of_ble_eq_true rfl) d_Wk_init_15 (fun q15 H hP hD hS => ?_)
  have hP : va_P G.1 vwCl ((([(h0, .inr (7, [.ref q7, .null, .null, .null, .null, .int 0]))]) ++ [(q7, .inl (G.2.1, 16, .inl (fun _ => 0)))]) ++ [(q15, .inl (G.2.1, 16, .inl (fun _ => 0)))]) H := hP
  have hD : va_D A ((([(h0, .inr (7, [.ref q7, .null, .null, .null, .null, .int 0]))]) ++ [(q7, .inl (G.2.1, 16, .inl (fun _ => 0)))]) ++ [(q15, .inl (G.2.1, 16, .inl (fun _ => 0)))]) := hD
  refine va_putF (D := G.1) (ci := 7) (v := .ref q15) (C := R_Wk) (T := T_Wk) (N := 6) hx hb hts in_Wk ty_Wk ty_Wk_ok nm_Wk hown hK hP hD hS 0 rfl rfl 1 (by decide) (hts _ k_95) (fun _ h9 => h9) rfl hin rfl (ty_Wk_ok 1 (by decide)) rfl rfl (Nat.le_of_ble_eq_true rfl) d_Wk_init_17 (fun H locs hP hD hS => ?_)
  have hP : va_P G.1 vwCl ((([(h0, .inr (7, [.ref q7, .ref q15, .null, .null, .null, .int 0]))]) ++ [(q7, .inl (G.2.1, 16, .inl (fun _ => 0)))]) ++ [(q15, .inl (G.2.1, 16, .inl (fun _ => 0)))]) H := hP
  have hD : va_D A ((([(h0, .inr (7, [.ref q7, .ref q15, .null, .null, .null, .int 0]))]) ++ [(q7, .inl (G.2.1, 16, .inl (fun _ => 0)))]) ++ [(q15, .inl (G.2.1, 16, .inl (fun _ => 0)))]) := hD
  refine lv_aload_n hx hb d_Wk_init_20 rfl (lv_at hl 0 rfl) ?_
  refine lv_bipush (v := (16 : Int32)) hx hb d_Wk_init_21 (by decide) ?_
  refine knewI (N' := 16) hx hb (hts _ k_49) hK hP hD hS hA (by decide +kernel) (by decide +kernel) (Nat.le_of_ble_eq_true rfl) (Nat.le_of_ble_eq_true rfl) (Nat.le_of_ble_eq_true rfl) d_Wk_init_23 (fun q23 H hP hD hS => ?_)
  have hP : va_P G.1 vwCl (((([(h0, .inr (7, [.ref q7, .ref q15, .null, .null, .null, .int 0]))]) ++ [(q7, .inl (G.2.1, 16, .inl (fun _ => 0)))]) ++ [(q15, .inl (G.2.1, 16, .inl (fun _ => 0)))]) ++ [(q23, .inl (G.2.1, 16, .inl (fun _ => 0)))]) H := hP
  have hD : va_D A (((([(h0, .inr (7, [.ref q7, .ref q15, .null, .null, .null, .int 0]))]) ++ [(q7, .inl (G.2.1, 16, .inl (fun _ => 0)))]) ++ [(q15, .inl (G.2.1, 16, .inl (fun _ => 0)))]) ++ [(q23, .inl (G.2.1, 16, .inl (fun _ => 0)))]) := hD
  refine va_putF (D := G.1) (ci := 7) (v := .ref q23) (C := R_Wk) (T := T_Wk) (N := 6) hx hb hts in_Wk ty_Wk ty_Wk_ok nm_Wk hown hK hP hD hS 0 rfl rfl 2 (by decide) (hts _ k_96) (fun _ h9 => h9) rfl hin rfl (ty_Wk_ok 2 (by decide)) rfl rfl (Nat.le_of_ble_eq_true rfl) d_Wk_init_25 (fun H locs hP hD hS => ?_)
  have hP : va_P G.1 vwCl (((([(h0, .inr (7, [.ref q7, .ref q15, .ref q23, .null, .null, .int 0]))]) ++ [(q7, .inl (G.2.1, 16, .inl (fun _ => 0)))]) ++ [(q15, .inl (G.2.1, 16, .inl (fun _ => 0)))]) ++ [(q23, .inl (G.2.1, 16, .inl (fun _ => 0)))]) H := hP
  have hD : va_D A (((([(h0, .inr (7, [.ref q7, .ref q15, .ref q23, .null, .null, .int 0]))]) ++ [(q7, .inl (G.2.1, 16, .inl (fun _ => 0)))]) ++ [(q15, .inl (G.2.1, 16, .inl (fun _ => 0)))]) ++ [(q23, .inl (G.2.1, 16, .inl (fun _ => 0)))]) := hD
  refine lv_aload_n hx hb d_Wk_init_28 rfl (lv_at hl 0 rfl) ?_
  refine lv_bipush (v := (16 : Int32)) hx hb d_Wk_init_29 (by decide) ?_
  refine knewI (N' := 16) hx hb (hts _ k_49) hK hP hD hS hA (by decide +kernel) (by decide +kernel) (Nat.le_of_ble_eq_true rfl) (Nat.le_of_ble_eq_true rfl) (Nat.le_of_ble_eq_true rfl) d_Wk_init_31 (fun q31 H hP hD hS => ?_)
  have hP : va_P G.1 vwCl ((((([(h0, .inr (7, [.ref q7, .ref q15, .ref q23, .null, .null, .int 0]))]) ++ [(q7, .inl (G.2.1, 16, .inl (fun _ => 0)))]) ++ [(q15, .inl (G.2.1, 16, .inl (fun _ => 0)))]) ++ [(q23, .inl (G.2.1, 16, .inl (fun _ => 0)))]) ++ [(q31, .inl (G.2.1, 16, .inl (fun _ => 0)))]) H := hP
  have hD : va_D A ((((([(h0, .inr (7, [.ref q7, .ref q15, .ref q23, .null, .null, .int 0]))]) ++ [(q7, .inl (G.2.1, 16, .inl (fun _ => 0)))]) ++ [(q15, .inl (G.2.1, 16, .inl (fun _ => 0)))]) ++ [(q23, .inl (G.2.1, 16, .inl (fun _ => 0)))]) ++ [(q31, .inl (G.2.1, 16, .inl (fun _ => 0)))]) := hD
  refine va_putF (D := G.1) (ci := 7) (v := .ref q31) (C := R_Wk) (T := T_Wk) (N := 6) hx hb hts in_Wk ty_Wk ty_Wk_ok nm_Wk hown hK hP hD hS 0 rfl rfl 3 (by decide) (hts _ k_97) (fun _ h9 => h9) rfl hin rfl (ty_Wk_ok 3 (by decide)) rfl rfl (Nat.le_of_ble_eq_true rfl) d_Wk_init_33 (fun H locs hP hD hS => ?_)
  have hP : va_P G.1 vwCl ((((([(h0, .inr (7, [.ref q7, .ref q15, .ref q23, .ref q31, .null, .int 0]))]) ++ [(q7, .inl (G.2.1, 16, .inl (fun _ => 0)))]) ++ [(q15, .inl (G.2.1, 16, .inl (fun _ => 0)))]) ++ [(q23, .inl (G.2.1, 16, .inl (fun _ => 0)))]) ++ [(q31, .inl (G.2.1, 16, .inl (fun _ => 0)))]) H := hP
  have hD : va_D A ((((([(h0, .inr (7, [.ref q7, .ref q15, .ref q23, .ref q31, .null, .int 0]))]) ++ [(q7, .inl (G.2.1, 16, .inl (fun _ => 0)))]) ++ [(q15, .inl (G.2.1, 16, .inl (fun _ => 0)))]) ++ [(q23, .inl (G.2.1, 16, .inl (fun _ => 0)))]) ++ [(q31, .inl (G.2.1, 16, .inl (fun _ => 0)))]) := hD
  refine lv_aload_n hx hb d_Wk_init_36 rfl (lv_at hl 0 rfl) ?_
  refine lv_bipush (v := (16 : Int32)) hx hb d_Wk_init_37 (by decide) ?_
  refine knewI (N' := 16) hx hb (hts _ k_49) hK hP hD hS hA (by decide +kernel) (by decide +kernel) (Nat.le_of_ble_eq_true rfl) (Nat.le_of_ble_eq_true rfl) (Nat.le_of_ble_eq_true rfl) d_Wk_init_39 (fun q39 H hP hD hS => ?_)
  have hP : va_P G.1 vwCl (((((([(h0, .inr (7, [.ref q7, .ref q15, .ref q23, .ref q31, .null, .int 0]))]) ++ [(q7, .inl (G.2.1, 16, .inl (fun _ => 0)))]) ++ [(q15, .inl (G.2.1, 16, .inl (fun _ => 0)))]) ++ [(q23, .inl (G.2.1, 16, .inl (fun _ => 0)))]) ++ [(q31, .inl (G.2.1, 16, .inl (fun _ => 0)))]) ++ [(q39, .inl (G.2.1, 16, .inl (fun _ => 0)))]) H := hP
  have hD : va_D A (((((([(h0, .inr (7, [.ref q7, .ref q15, .ref q23, .ref q31, .null, .int 0]))]) ++ [(q7, .inl (G.2.1, 16, .inl (fun _ => 0)))]) ++ [(q15, .inl (G.2.1, 16, .inl (fun _ => 0)))]) ++ [(q23, .inl (G.2.1, 16, .inl (fun _ => 0)))]) ++ [(q31, .inl (G.2.1, 16, .inl (fun _ => 0)))]) ++ [(q39, .inl (G.2.1, 16, .inl (fun _ => 0)))]) := hD
  refine va_putF (D := G.1) (ci := 7) (v := .ref q39) (C := R_Wk) (T := T_Wk) (N := 6) hx hb hts in_Wk ty_Wk ty_Wk_ok nm_Wk hown hK hP hD hS 0 rfl rfl 4 (by decide) (hts _ k_98) (fun _ h9 => h9) rfl hin rfl (ty_Wk_ok 4 (by decide)) rfl rfl (Nat.le_of_ble_eq_true rfl) d_Wk_init_41 (fun H locs hP hD hS => ?_)
  have hP : va_P G.1 vwCl (((((([(h0, .inr (7, [.ref q7, .ref q15, .ref q23, .ref q31, .ref q39, .int 0]))]) ++ [(q7, .inl (G.2.1, 16, .inl (fun _ => 0)))]) ++ [(q15, .inl (G.2.1, 16, .inl (fun _ => 0)))]) ++ [(q23, .inl (G.2.1, 16, .inl (fun _ => 0)))]) ++ [(q31, .inl (G.2.1, 16, .inl (fun _ => 0)))]) ++ [(q39, .inl (G.2.1, 16, .inl (fun _ => 0)))]) H := hP
  have hD : va_D A (((((([(h0, .inr (7, [.ref q7, .ref q15, .ref q23, .ref q31, .ref q39, .int 0]))]) ++ [(q7, .inl (G.2.1, 16, .inl (fun _ => 0)))]) ++ [(q15, .inl (G.2.1, 16, .inl (fun _ => 0)))]) ++ [(q23, .inl (G.2.1, 16, .inl (fun _ => 0)))]) ++ [(q31, .inl (G.2.1, 16, .inl (fun _ => 0)))]) ++ [(q39, .inl (G.2.1, 16, .inl (fun _ => 0)))]) := hD
  refine lv_aload_n hx hb d_Wk_init_44 rfl (lv_at hl 0 rfl) ?_
  refine lv_iconst (v := (0 : Int32)) hx hb d_Wk_init_45 (by decide) ?_
  refine va_put (D := G.1) (ci := 7) (v := .int (0 : Int32)) (C := R_Wk) (T := T_Wk) (N := 6) hx hb hts in_Wk ty_Wk ty_Wk_ok nm_Wk hown hK hP hD hS 0 rfl rfl 5 (by decide) (hts _ k_99) (fun _ h9 => h9) rfl (ty_Wk_ok 5 (by decide)) rfl rfl (Nat.le_of_ble_eq_true rfl) d_Wk_init_46 (fun H locs hP hD hS => ?_)
  have hP : va_P G.1 vwCl (((((([(h0, .inr (7, [.ref q7, .ref q15, .ref q23, .ref q31, .ref q39, .int (0 : Int32)]))]) ++ [(q7, .inl (G.2.1, 16, .inl (fun _ => 0)))]) ++ [(q15, .inl (G.2.1, 16, .inl (fun _ => 0)))]) ++ [(q23, .inl (G.2.1, 16, .inl (fun _ => 0)))]) ++ [(q31, .inl (G.2.1, 16, .inl (fun _ => 0)))]) ++ [(q39, .inl (G.2.1, 16, .inl (fun _ => 0)))]) H := hP
  have hD : va_D A (((((([(h0, .inr (7, [.ref q7, .ref q15, .ref q23, .ref q31, .ref q39, .int (0 : Int32)]))]) ++ [(q7, .inl (G.2.1, 16, .inl (fun _ => 0)))]) ++ [(q15, .inl (G.2.1, 16, .inl (fun _ => 0)))]) ++ [(q23, .inl (G.2.1, 16, .inl (fun _ => 0)))]) ++ [(q31, .inl (G.2.1, 16, .inl (fun _ => 0)))]) ++ [(q39, .inl (G.2.1, 16, .inl (fun _ => 0)))]) := hD
  refine W.widen (k := 5) (n := 80) (Nat.le_of_ble_eq_true rfl) (Nat.le_of_ble_eq_true rfl) ?_
  have hP : va_P G.1 vwCl (W_Wk G (fun j => if j = 0 then h0 else if j < 2 then q7 else if j < 3 then q15 else if j < 4 then q23 else if j < 5 then q31 else q39) Wk0) H := hP
  have hD : va_D A (W_Wk G (fun j => if j = 0 then h0 else if j < 2 then q7 else if j < 3 then q15 else if j < 4 then q23 else if j < 5 then q31 else q39) Wk0) := hD
  exact kC (u := (fun j => if j = 0 then h0 else if j < 2 then q7 else if j < 3 then q15 else if j < 4 then q23 else if j < 5 then q31 else q39)) hx hb hr hlk hP hD hS rfl d_Wk_init_49

set_option maxHeartbeats 4000000 in
set_option maxRecDepth 100000 in
theorem t_St_init (l : Launch) (G : GG) (h0 : Nat) : MC (S := Nat → Nat) l G y_St_init c_St_init 1 { frames := 2, cells := 19, slots := 2239, locals := 32 } ([(h0, .inr (6, [.null, .null, .null, .int 0, .int 0, .int 0, .int 0, .int 0, .int 0]))]) h0 (fun u => W_St G u St0) (fun u => u 0) := by
  refine ofC "FloodDiary$State" (by decide +kernel) rfl rfl (Nat.le_of_ble_eq_true rfl) (fun p e s m args below meth c A ls hx hb hr hml hown hin hts hlk hK hN hA hP hD hS hl => ?_)
  have hl : lv_has ls 1 [(0, .ref h0)] := hl
  refine lv_aload_n hx hb d_St_init_0 rfl (lv_at hl 0 rfl) ?_
  refine W.objInit (own := "FloodDiary$State") (idx := 3) hx hb hown (hts _ k_26) (hts _ k_19) (hts _ k_20) rfl (by rw [hml]; exact hl.1) rfl d_St_init_1 (Nat.le_of_ble_eq_true rfl) (Nat.le_of_ble_eq_true rfl) ?_
  refine W.eq (g2 := F0 m 4 ls []) rfl ?_
  refine lv_aload_n hx hb d_St_init_4 rfl (lv_at hl 0 rfl) ?_
  refine va_new (ci := 4) (fs := [.null, .null, .null, .null, .int 0]) (C := R_Pg) (T := T_Pg) (N := 5) hx hb hts in_Pg ty_Pg ty_Pg_ok hown (hts _ k_27) (hts _ k_28) (hts _ k_3) hK hP hD hS hA rfl (fun j hj => by rcases (show j = 0 ∨ j = 1 ∨ j = 2 ∨ j = 3 ∨ j = 4 by omega) with rfl | rfl | rfl | rfl | rfl <;> rfl) (Nat.le_of_ble_eq_true rfl) (Nat.le_of_ble_eq_true rfl) d_St_init_5 (fun q5_4 H hP hD hS => ?_)
  have hP : va_P G.1 vwCl (([(h0, .inr (6, [.null, .null, .null, .int 0, .int 0, .int 0, .int 0, .int 0, .int 0]))]) ++ [(q5_4, .inr (4, [.null, .null, .null, .null, .int 0]))]) H := hP
  have hD : va_D A (([(h0, .inr (6, [.null, .null, .null, .int 0, .int 0, .int 0, .int 0, .int 0, .int 0]))]) ++ [(q5_4, .inr (4, [.null, .null, .null, .null, .int 0]))]) := hD
  refine lv_dup hx hb d_St_init_8 rfl ?_
  refine kcIN (cc := c_St_init) (own := "FloodDiary$State") (index := 11) (wr := [(h0, .inr (6, [.null, .null, .null, .int 0, .int 0, .int 0, .int 0, .int 0, .int 0]))]) hx hb hml hown hts hK hN hA hP hD hS (t_Pg_init l G q5_4) ⟨k_30, k_3, k_31, by decide +kernel, by decide +kernel, by decide +kernel⟩ nsM_1 ⟨Nat.le_of_ble_eq_true rfl, Nat.le_of_ble_eq_true rfl⟩ (List.perm_append_comm) rfl (Nat.le_of_ble_eq_true rfl) hl.1 d_St_init_9 ⟨Nat.le_of_ble_eq_true rfl, Nat.le_of_ble_eq_true rfl⟩ (fun u9_6 H locs hu hP2 hD2 hS => ?_)
  have hu : u9_6 0 = q5_4 := hu
  subst hu
  have hP : va_P G.1 vwCl (([(h0, .inr (6, [.null, .null, .null, .int 0, .int 0, .int 0, .int 0, .int 0, .int 0]))]) ++ W_Pg G u9_6 Pg0) H := hP2
  have hD : va_D A (([(h0, .inr (6, [.null, .null, .null, .int 0, .int 0, .int 0, .int 0, .int 0, .int 0]))]) ++ W_Pg G u9_6 Pg0) := hD2
  refine va_putF (D := G.1) (ci := 6) (v := .ref (u9_6 0)) (C := R_St) (T := T_St) (N := 9) hx hb hts in_St ty_St ty_St_ok nm_St hown hK hP hD hS 0 rfl rfl 0 (by decide) (hts _ k_114) (fun _ h9 => h9) rfl hin rfl (ty_St_ok 0 (by decide)) rfl rfl (Nat.le_of_ble_eq_true rfl) d_St_init_12 (fun H locs hP hD hS => ?_)
  have hP : va_P G.1 vwCl (([(h0, .inr (6, [.ref (u9_6 0), .null, .null, .int 0, .int 0, .int 0, .int 0, .int 0, .int 0]))]) ++ W_Pg G u9_6 Pg0) H := hP
  have hD : va_D A (([(h0, .inr (6, [.ref (u9_6 0), .null, .null, .int 0, .int 0, .int 0, .int 0, .int 0, .int 0]))]) ++ W_Pg G u9_6 Pg0) := hD
  refine lv_aload_n hx hb d_St_init_15 rfl (lv_at hl 0 rfl) ?_
  refine va_new (ci := 0) (fs := [.null, .null, .null, .null, .null, .null, .null, .int 0, .int 0]) (C := R_Dy) (T := T_Dy) (N := 9) hx hb hts in_Dy ty_Dy ty_Dy_ok hown (hts _ k_50) (hts _ k_51) (hts _ k_4) hK hP hD hS hA rfl (fun j hj => by rcases (show j = 0 ∨ j = 1 ∨ j = 2 ∨ j = 3 ∨ j = 4 ∨ j = 5 ∨ j = 6 ∨ j = 7 ∨ j = 8 by omega) with rfl | rfl | rfl | rfl | rfl | rfl | rfl | rfl | rfl <;> rfl) (Nat.le_of_ble_eq_true rfl) (Nat.le_of_ble_eq_true rfl) d_St_init_16 (fun q16_9 H hP hD hS => ?_)
  have hP : va_P G.1 vwCl ((([(h0, .inr (6, [.ref (u9_6 0), .null, .null, .int 0, .int 0, .int 0, .int 0, .int 0, .int 0]))]) ++ W_Pg G u9_6 Pg0) ++ [(q16_9, .inr (0, [.null, .null, .null, .null, .null, .null, .null, .int 0, .int 0]))]) H := hP
  have hD : va_D A ((([(h0, .inr (6, [.ref (u9_6 0), .null, .null, .int 0, .int 0, .int 0, .int 0, .int 0, .int 0]))]) ++ W_Pg G u9_6 Pg0) ++ [(q16_9, .inr (0, [.null, .null, .null, .null, .null, .null, .null, .int 0, .int 0]))]) := hD
  refine lv_dup hx hb d_St_init_19 rfl ?_
  refine kcIN (cc := c_St_init) (own := "FloodDiary$State") (index := 20) (wr := ([(h0, .inr (6, [.ref (u9_6 0), .null, .null, .int 0, .int 0, .int 0, .int 0, .int 0, .int 0]))]) ++ W_Pg G u9_6 Pg0) hx hb hml hown hts hK hN hA hP hD hS (t_Dy_init l G q16_9) ⟨k_53, k_4, k_54, by decide +kernel, by decide +kernel, by decide +kernel⟩ nsM_2 ⟨Nat.le_of_ble_eq_true rfl, Nat.le_of_ble_eq_true rfl⟩ (List.perm_append_comm) rfl (Nat.le_of_ble_eq_true rfl) hl.1 d_St_init_20 ⟨Nat.le_of_ble_eq_true rfl, Nat.le_of_ble_eq_true rfl⟩ (fun u20_11 H locs hu hP2 hD2 hS => ?_)
  have hu : u20_11 0 = q16_9 := hu
  subst hu
  have hP : va_P G.1 vwCl ((([(h0, .inr (6, [.ref (u9_6 0), .null, .null, .int 0, .int 0, .int 0, .int 0, .int 0, .int 0]))]) ++ W_Pg G u9_6 Pg0) ++ W_Dy G u20_11 Dy0) H := hP2
  have hD : va_D A ((([(h0, .inr (6, [.ref (u9_6 0), .null, .null, .int 0, .int 0, .int 0, .int 0, .int 0, .int 0]))]) ++ W_Pg G u9_6 Pg0) ++ W_Dy G u20_11 Dy0) := hD2
  refine va_putF (D := G.1) (ci := 6) (v := .ref (u20_11 0)) (C := R_St) (T := T_St) (N := 9) hx hb hts in_St ty_St ty_St_ok nm_St hown hK hP hD hS 0 rfl rfl 1 (by decide) (hts _ k_116) (fun _ h9 => h9) rfl hin rfl (ty_St_ok 1 (by decide)) rfl rfl (Nat.le_of_ble_eq_true rfl) d_St_init_23 (fun H locs hP hD hS => ?_)
  have hP : va_P G.1 vwCl ((([(h0, .inr (6, [.ref (u9_6 0), .ref (u20_11 0), .null, .int 0, .int 0, .int 0, .int 0, .int 0, .int 0]))]) ++ W_Pg G u9_6 Pg0) ++ W_Dy G u20_11 Dy0) H := hP
  have hD : va_D A ((([(h0, .inr (6, [.ref (u9_6 0), .ref (u20_11 0), .null, .int 0, .int 0, .int 0, .int 0, .int 0, .int 0]))]) ++ W_Pg G u9_6 Pg0) ++ W_Dy G u20_11 Dy0) := hD
  refine lv_aload_n hx hb d_St_init_26 rfl (lv_at hl 0 rfl) ?_
  refine va_new (ci := 7) (fs := [.null, .null, .null, .null, .null, .int 0]) (C := R_Wk) (T := T_Wk) (N := 6) hx hb hts in_Wk ty_Wk ty_Wk_ok hown (hts _ k_88) (hts _ k_89) (hts _ k_5) hK hP hD hS hA rfl (fun j hj => by rcases (show j = 0 ∨ j = 1 ∨ j = 2 ∨ j = 3 ∨ j = 4 ∨ j = 5 by omega) with rfl | rfl | rfl | rfl | rfl | rfl <;> rfl) (Nat.le_of_ble_eq_true rfl) (Nat.le_of_ble_eq_true rfl) d_St_init_27 (fun q27_14 H hP hD hS => ?_)
  have hP : va_P G.1 vwCl (((([(h0, .inr (6, [.ref (u9_6 0), .ref (u20_11 0), .null, .int 0, .int 0, .int 0, .int 0, .int 0, .int 0]))]) ++ W_Pg G u9_6 Pg0) ++ W_Dy G u20_11 Dy0) ++ [(q27_14, .inr (7, [.null, .null, .null, .null, .null, .int 0]))]) H := hP
  have hD : va_D A (((([(h0, .inr (6, [.ref (u9_6 0), .ref (u20_11 0), .null, .int 0, .int 0, .int 0, .int 0, .int 0, .int 0]))]) ++ W_Pg G u9_6 Pg0) ++ W_Dy G u20_11 Dy0) ++ [(q27_14, .inr (7, [.null, .null, .null, .null, .null, .int 0]))]) := hD
  refine lv_dup hx hb d_St_init_30 rfl ?_
  refine kcIN (cc := c_St_init) (own := "FloodDiary$State") (index := 27) (wr := (([(h0, .inr (6, [.ref (u9_6 0), .ref (u20_11 0), .null, .int 0, .int 0, .int 0, .int 0, .int 0, .int 0]))]) ++ W_Pg G u9_6 Pg0) ++ W_Dy G u20_11 Dy0) hx hb hml hown hts hK hN hA hP hD hS (t_Wk_init l G q27_14) ⟨k_91, k_5, k_92, by decide +kernel, by decide +kernel, by decide +kernel⟩ nsM_3 ⟨Nat.le_of_ble_eq_true rfl, Nat.le_of_ble_eq_true rfl⟩ (List.perm_append_comm) rfl (Nat.le_of_ble_eq_true rfl) hl.1 d_St_init_31 ⟨Nat.le_of_ble_eq_true rfl, Nat.le_of_ble_eq_true rfl⟩ (fun u31_16 H locs hu hP2 hD2 hS => ?_)
  have hu : u31_16 0 = q27_14 := hu
  subst hu
  have hP : va_P G.1 vwCl (((([(h0, .inr (6, [.ref (u9_6 0), .ref (u20_11 0), .null, .int 0, .int 0, .int 0, .int 0, .int 0, .int 0]))]) ++ W_Pg G u9_6 Pg0) ++ W_Dy G u20_11 Dy0) ++ W_Wk G u31_16 Wk0) H := hP2
  have hD : va_D A (((([(h0, .inr (6, [.ref (u9_6 0), .ref (u20_11 0), .null, .int 0, .int 0, .int 0, .int 0, .int 0, .int 0]))]) ++ W_Pg G u9_6 Pg0) ++ W_Dy G u20_11 Dy0) ++ W_Wk G u31_16 Wk0) := hD2
  refine va_putF (D := G.1) (ci := 6) (v := .ref (u31_16 0)) (C := R_St) (T := T_St) (N := 9) hx hb hts in_St ty_St ty_St_ok nm_St hown hK hP hD hS 0 rfl rfl 2 (by decide) (hts _ k_118) (fun _ h9 => h9) rfl hin rfl (ty_St_ok 2 (by decide)) rfl rfl (Nat.le_of_ble_eq_true rfl) d_St_init_34 (fun H locs hP hD hS => ?_)
  have hP : va_P G.1 vwCl (((([(h0, .inr (6, [.ref (u9_6 0), .ref (u20_11 0), .ref (u31_16 0), .int 0, .int 0, .int 0, .int 0, .int 0, .int 0]))]) ++ W_Pg G u9_6 Pg0) ++ W_Dy G u20_11 Dy0) ++ W_Wk G u31_16 Wk0) H := hP
  have hD : va_D A (((([(h0, .inr (6, [.ref (u9_6 0), .ref (u20_11 0), .ref (u31_16 0), .int 0, .int 0, .int 0, .int 0, .int 0, .int 0]))]) ++ W_Pg G u9_6 Pg0) ++ W_Dy G u20_11 Dy0) ++ W_Wk G u31_16 Wk0) := hD
  refine lv_aload_n hx hb d_St_init_37 rfl (lv_at hl 0 rfl) ?_
  refine lv_iconst (v := (0 : Int32)) hx hb d_St_init_38 (by decide) ?_
  refine va_put (D := G.1) (ci := 6) (v := .int (0 : Int32)) (C := R_St) (T := T_St) (N := 9) hx hb hts in_St ty_St ty_St_ok nm_St hown hK hP hD hS 0 rfl rfl 3 (by decide) (hts _ k_120) (fun _ h9 => h9) rfl (ty_St_ok 3 (by decide)) rfl rfl (Nat.le_of_ble_eq_true rfl) d_St_init_39 (fun H locs hP hD hS => ?_)
  have hP : va_P G.1 vwCl (((([(h0, .inr (6, [.ref (u9_6 0), .ref (u20_11 0), .ref (u31_16 0), .int (0 : Int32), .int 0, .int 0, .int 0, .int 0, .int 0]))]) ++ W_Pg G u9_6 Pg0) ++ W_Dy G u20_11 Dy0) ++ W_Wk G u31_16 Wk0) H := hP
  have hD : va_D A (((([(h0, .inr (6, [.ref (u9_6 0), .ref (u20_11 0), .ref (u31_16 0), .int (0 : Int32), .int 0, .int 0, .int 0, .int 0, .int 0]))]) ++ W_Pg G u9_6 Pg0) ++ W_Dy G u20_11 Dy0) ++ W_Wk G u31_16 Wk0) := hD
  refine lv_aload_n hx hb d_St_init_42 rfl (lv_at hl 0 rfl) ?_
  refine lv_iconst (v := (0 : Int32)) hx hb d_St_init_43 (by decide) ?_
  refine va_put (D := G.1) (ci := 6) (v := .int (0 : Int32)) (C := R_St) (T := T_St) (N := 9) hx hb hts in_St ty_St ty_St_ok nm_St hown hK hP hD hS 0 rfl rfl 4 (by decide) (hts _ k_122) (fun _ h9 => h9) rfl (ty_St_ok 4 (by decide)) rfl rfl (Nat.le_of_ble_eq_true rfl) d_St_init_44 (fun H locs hP hD hS => ?_)
  have hP : va_P G.1 vwCl (((([(h0, .inr (6, [.ref (u9_6 0), .ref (u20_11 0), .ref (u31_16 0), .int (0 : Int32), .int (0 : Int32), .int 0, .int 0, .int 0, .int 0]))]) ++ W_Pg G u9_6 Pg0) ++ W_Dy G u20_11 Dy0) ++ W_Wk G u31_16 Wk0) H := hP
  have hD : va_D A (((([(h0, .inr (6, [.ref (u9_6 0), .ref (u20_11 0), .ref (u31_16 0), .int (0 : Int32), .int (0 : Int32), .int 0, .int 0, .int 0, .int 0]))]) ++ W_Pg G u9_6 Pg0) ++ W_Dy G u20_11 Dy0) ++ W_Wk G u31_16 Wk0) := hD
  refine lv_aload_n hx hb d_St_init_47 rfl (lv_at hl 0 rfl) ?_
  refine lv_iconst (v := (1 : Int32)) hx hb d_St_init_48 (by decide) ?_
  refine va_put (D := G.1) (ci := 6) (v := .int (1 : Int32)) (C := R_St) (T := T_St) (N := 9) hx hb hts in_St ty_St ty_St_ok nm_St hown hK hP hD hS 0 rfl rfl 5 (by decide) (hts _ k_123) (fun _ h9 => h9) rfl (ty_St_ok 5 (by decide)) rfl rfl (Nat.le_of_ble_eq_true rfl) d_St_init_49 (fun H locs hP hD hS => ?_)
  have hP : va_P G.1 vwCl (((([(h0, .inr (6, [.ref (u9_6 0), .ref (u20_11 0), .ref (u31_16 0), .int (0 : Int32), .int (0 : Int32), .int (1 : Int32), .int 0, .int 0, .int 0]))]) ++ W_Pg G u9_6 Pg0) ++ W_Dy G u20_11 Dy0) ++ W_Wk G u31_16 Wk0) H := hP
  have hD : va_D A (((([(h0, .inr (6, [.ref (u9_6 0), .ref (u20_11 0), .ref (u31_16 0), .int (0 : Int32), .int (0 : Int32), .int (1 : Int32), .int 0, .int 0, .int 0]))]) ++ W_Pg G u9_6 Pg0) ++ W_Dy G u20_11 Dy0) ++ W_Wk G u31_16 Wk0) := hD
  refine lv_aload_n hx hb d_St_init_52 rfl (lv_at hl 0 rfl) ?_
  refine lv_iconst (v := (0 : Int32)) hx hb d_St_init_53 (by decide) ?_
  refine va_put (D := G.1) (ci := 6) (v := .int (0 : Int32)) (C := R_St) (T := T_St) (N := 9) hx hb hts in_St ty_St ty_St_ok nm_St hown hK hP hD hS 0 rfl rfl 6 (by decide) (hts _ k_124) (fun _ h9 => h9) rfl (ty_St_ok 6 (by decide)) rfl rfl (Nat.le_of_ble_eq_true rfl) d_St_init_54 (fun H locs hP hD hS => ?_)
  have hP : va_P G.1 vwCl (((([(h0, .inr (6, [.ref (u9_6 0), .ref (u20_11 0), .ref (u31_16 0), .int (0 : Int32), .int (0 : Int32), .int (1 : Int32), .int (0 : Int32), .int 0, .int 0]))]) ++ W_Pg G u9_6 Pg0) ++ W_Dy G u20_11 Dy0) ++ W_Wk G u31_16 Wk0) H := hP
  have hD : va_D A (((([(h0, .inr (6, [.ref (u9_6 0), .ref (u20_11 0), .ref (u31_16 0), .int (0 : Int32), .int (0 : Int32), .int (1 : Int32), .int (0 : Int32), .int 0, .int 0]))]) ++ W_Pg G u9_6 Pg0) ++ W_Dy G u20_11 Dy0) ++ W_Wk G u31_16 Wk0) := hD
  refine lv_aload_n hx hb d_St_init_57 rfl (lv_at hl 0 rfl) ?_
  refine lv_iconst (v := (0 : Int32)) hx hb d_St_init_58 (by decide) ?_
  refine va_put (D := G.1) (ci := 6) (v := .int (0 : Int32)) (C := R_St) (T := T_St) (N := 9) hx hb hts in_St ty_St ty_St_ok nm_St hown hK hP hD hS 0 rfl rfl 7 (by decide) (hts _ k_125) (fun _ h9 => h9) rfl (ty_St_ok 7 (by decide)) rfl rfl (Nat.le_of_ble_eq_true rfl) d_St_init_59 (fun H locs hP hD hS => ?_)
  have hP : va_P G.1 vwCl (((([(h0, .inr (6, [.ref (u9_6 0), .ref (u20_11 0), .ref (u31_16 0), .int (0 : Int32), .int (0 : Int32), .int (1 : Int32), .int (0 : Int32), .int (0 : Int32), .int 0]))]) ++ W_Pg G u9_6 Pg0) ++ W_Dy G u20_11 Dy0) ++ W_Wk G u31_16 Wk0) H := hP
  have hD : va_D A (((([(h0, .inr (6, [.ref (u9_6 0), .ref (u20_11 0), .ref (u31_16 0), .int (0 : Int32), .int (0 : Int32), .int (1 : Int32), .int (0 : Int32), .int (0 : Int32), .int 0]))]) ++ W_Pg G u9_6 Pg0) ++ W_Dy G u20_11 Dy0) ++ W_Wk G u31_16 Wk0) := hD
  refine lv_aload_n hx hb d_St_init_62 rfl (lv_at hl 0 rfl) ?_
  refine lv_iconst (v := (0 : Int32)) hx hb d_St_init_63 (by decide) ?_
  refine va_put (D := G.1) (ci := 6) (v := .int (0 : Int32)) (C := R_St) (T := T_St) (N := 9) hx hb hts in_St ty_St ty_St_ok nm_St hown hK hP hD hS 0 rfl rfl 8 (by decide) (hts _ k_126) (fun _ h9 => h9) rfl (ty_St_ok 8 (by decide)) rfl rfl (Nat.le_of_ble_eq_true rfl) d_St_init_64 (fun H locs hP hD hS => ?_)
  have hP : va_P G.1 vwCl (((([(h0, .inr (6, [.ref (u9_6 0), .ref (u20_11 0), .ref (u31_16 0), .int (0 : Int32), .int (0 : Int32), .int (1 : Int32), .int (0 : Int32), .int (0 : Int32), .int (0 : Int32)]))]) ++ W_Pg G u9_6 Pg0) ++ W_Dy G u20_11 Dy0) ++ W_Wk G u31_16 Wk0) H := hP
  have hD : va_D A (((([(h0, .inr (6, [.ref (u9_6 0), .ref (u20_11 0), .ref (u31_16 0), .int (0 : Int32), .int (0 : Int32), .int (1 : Int32), .int (0 : Int32), .int (0 : Int32), .int (0 : Int32)]))]) ++ W_Pg G u9_6 Pg0) ++ W_Dy G u20_11 Dy0) ++ W_Wk G u31_16 Wk0) := hD
  refine W.widen (k := 19) (n := 2239) (Nat.le_of_ble_eq_true rfl) (Nat.le_of_ble_eq_true rfl) ?_
  have hP : va_P G.1 vwCl (W_St G (fun j => if j = 0 then h0 else if j < 6 then u9_6 (j - 1) else if j < 14 then u20_11 (j - 6) else u31_16 (j - 14)) St0) H := hP
  have hD : va_D A (W_St G (fun j => if j = 0 then h0 else if j < 6 then u9_6 (j - 1) else if j < 14 then u20_11 (j - 6) else u31_16 (j - 14)) St0) := hD
  exact kC (u := (fun j => if j = 0 then h0 else if j < 6 then u9_6 (j - 1) else if j < 14 then u20_11 (j - 6) else u31_16 (j - 14))) hx hb hr hlk hP hD hS rfl d_St_init_67

set_option maxHeartbeats 4000000 in
set_option maxRecDepth 100000 in
theorem t_Pd_init (l : Launch) (G : GG) (h0 : Nat) : MC (S := Nat → Nat) l G y_Pd_init c_Pd_init 1 { frames := 1, cells := 1, slots := 80, locals := 12 } ([(h0, .inr (3, [.null, .int 0]))]) h0 (fun u => W_Pd G u Pd0) (fun u => u 0) := by
  refine ofC "FloodDiary$Pad" (by decide +kernel) rfl rfl (Nat.le_of_ble_eq_true rfl) (fun p e s m args below meth c A ls hx hb hr hml hown hin hts hlk hK hN hA hP hD hS hl => ?_)
  have hl : lv_has ls 1 [(0, .ref h0)] := hl
  refine lv_aload_n hx hb d_Pd_init_0 rfl (lv_at hl 0 rfl) ?_
  refine W.objInit (own := "FloodDiary$Pad") (idx := 3) hx hb hown (hts _ k_181) (hts _ k_19) (hts _ k_20) rfl (by rw [hml]; exact hl.1) rfl d_Pd_init_1 (Nat.le_of_ble_eq_true rfl) (Nat.le_of_ble_eq_true rfl) ?_
  refine W.eq (g2 := F0 m 4 ls []) rfl ?_
  refine lv_aload_n hx hb d_Pd_init_4 rfl (lv_at hl 0 rfl) ?_
  refine lv_bipush (v := (80 : Int32)) hx hb d_Pd_init_5 (by decide) ?_
  refine knewC (N' := 80) hx hb (hts _ k_189) hK hP hD hS hA (by decide +kernel) (by decide +kernel) (Nat.le_of_ble_eq_true rfl) (Nat.le_of_ble_eq_true rfl) (Nat.le_of_ble_eq_true rfl) d_Pd_init_7 (fun q7 H hP hD hS => ?_)
  have hP : va_P G.1 vwCl (([(h0, .inr (3, [.null, .int 0]))]) ++ [(q7, .inl (G.2.2.1, 80, .inl (fun _ => 0)))]) H := hP
  have hD : va_D A (([(h0, .inr (3, [.null, .int 0]))]) ++ [(q7, .inl (G.2.2.1, 80, .inl (fun _ => 0)))]) := hD
  refine va_putF (D := G.1) (ci := 3) (v := .ref q7) (C := R_Pd) (T := T_Pd) (N := 2) hx hb hts in_Pd ty_Pd ty_Pd_ok nm_Pd hown hK hP hD hS 0 rfl rfl 0 (by decide) (hts _ k_182) (fun _ h9 => h9) rfl hin rfl (ty_Pd_ok 0 (by decide)) rfl rfl (Nat.le_of_ble_eq_true rfl) d_Pd_init_9 (fun H locs hP hD hS => ?_)
  have hP : va_P G.1 vwCl (([(h0, .inr (3, [.ref q7, .int 0]))]) ++ [(q7, .inl (G.2.2.1, 80, .inl (fun _ => 0)))]) H := hP
  have hD : va_D A (([(h0, .inr (3, [.ref q7, .int 0]))]) ++ [(q7, .inl (G.2.2.1, 80, .inl (fun _ => 0)))]) := hD
  refine lv_aload_n hx hb d_Pd_init_12 rfl (lv_at hl 0 rfl) ?_
  refine lv_iconst (v := (0 : Int32)) hx hb d_Pd_init_13 (by decide) ?_
  refine va_put (D := G.1) (ci := 3) (v := .int (0 : Int32)) (C := R_Pd) (T := T_Pd) (N := 2) hx hb hts in_Pd ty_Pd ty_Pd_ok nm_Pd hown hK hP hD hS 0 rfl rfl 1 (by decide) (hts _ k_183) (fun _ h9 => h9) rfl (ty_Pd_ok 1 (by decide)) rfl rfl (Nat.le_of_ble_eq_true rfl) d_Pd_init_14 (fun H locs hP hD hS => ?_)
  have hP : va_P G.1 vwCl (([(h0, .inr (3, [.ref q7, .int (0 : Int32)]))]) ++ [(q7, .inl (G.2.2.1, 80, .inl (fun _ => 0)))]) H := hP
  have hD : va_D A (([(h0, .inr (3, [.ref q7, .int (0 : Int32)]))]) ++ [(q7, .inl (G.2.2.1, 80, .inl (fun _ => 0)))]) := hD
  refine W.widen (k := 1) (n := 80) (Nat.le_of_ble_eq_true rfl) (Nat.le_of_ble_eq_true rfl) ?_
  have hP : va_P G.1 vwCl (W_Pd G (fun j => if j = 0 then h0 else q7) Pd0) H := hP
  have hD : va_D A (W_Pd G (fun j => if j = 0 then h0 else q7) Pd0) := hD
  exact kC (u := (fun j => if j = 0 then h0 else q7)) hx hb hr hlk hP hD hS rfl d_Pd_init_17

set_option maxHeartbeats 4000000 in
set_option maxRecDepth 100000 in
theorem t_Or_init (l : Launch) (G : GG) (h0 : Nat) : MC (S := Nat → Nat) l G y_Or_init c_Or_init 1 { frames := 1, cells := 4, slots := 320, locals := 12 } ([(h0, .inr (2, [.null, .null, .null, .null, .int 0, .int 0, .int 0]))]) h0 (fun u => W_Or G u Or0) (fun u => u 0) := by
  refine ofC "FloodDiary$Orders" (by decide +kernel) rfl rfl (Nat.le_of_ble_eq_true rfl) (fun p e s m args below meth c A ls hx hb hr hml hown hin hts hlk hK hN hA hP hD hS hl => ?_)
  have hl : lv_has ls 1 [(0, .ref h0)] := hl
  refine lv_aload_n hx hb d_Or_init_0 rfl (lv_at hl 0 rfl) ?_
  refine W.objInit (own := "FloodDiary$Orders") (idx := 3) hx hb hown (hts _ k_195) (hts _ k_19) (hts _ k_20) rfl (by rw [hml]; exact hl.1) rfl d_Or_init_1 (Nat.le_of_ble_eq_true rfl) (Nat.le_of_ble_eq_true rfl) ?_
  refine W.eq (g2 := F0 m 4 ls []) rfl ?_
  refine lv_aload_n hx hb d_Or_init_4 rfl (lv_at hl 0 rfl) ?_
  refine lv_bipush (v := (80 : Int32)) hx hb d_Or_init_5 (by decide) ?_
  refine knewI (N' := 80) hx hb (hts _ k_49) hK hP hD hS hA (by decide +kernel) (by decide +kernel) (Nat.le_of_ble_eq_true rfl) (Nat.le_of_ble_eq_true rfl) (Nat.le_of_ble_eq_true rfl) d_Or_init_7 (fun q7 H hP hD hS => ?_)
  have hP : va_P G.1 vwCl (([(h0, .inr (2, [.null, .null, .null, .null, .int 0, .int 0, .int 0]))]) ++ [(q7, .inl (G.2.1, 80, .inl (fun _ => 0)))]) H := hP
  have hD : va_D A (([(h0, .inr (2, [.null, .null, .null, .null, .int 0, .int 0, .int 0]))]) ++ [(q7, .inl (G.2.1, 80, .inl (fun _ => 0)))]) := hD
  refine va_putF (D := G.1) (ci := 2) (v := .ref q7) (C := R_Or) (T := T_Or) (N := 7) hx hb hts in_Or ty_Or ty_Or_ok nm_Or hown hK hP hD hS 0 rfl rfl 0 (by decide) (hts _ k_196) (fun _ h9 => h9) rfl hin rfl (ty_Or_ok 0 (by decide)) rfl rfl (Nat.le_of_ble_eq_true rfl) d_Or_init_9 (fun H locs hP hD hS => ?_)
  have hP : va_P G.1 vwCl (([(h0, .inr (2, [.ref q7, .null, .null, .null, .int 0, .int 0, .int 0]))]) ++ [(q7, .inl (G.2.1, 80, .inl (fun _ => 0)))]) H := hP
  have hD : va_D A (([(h0, .inr (2, [.ref q7, .null, .null, .null, .int 0, .int 0, .int 0]))]) ++ [(q7, .inl (G.2.1, 80, .inl (fun _ => 0)))]) := hD
  refine lv_aload_n hx hb d_Or_init_12 rfl (lv_at hl 0 rfl) ?_
  refine lv_bipush (v := (80 : Int32)) hx hb d_Or_init_13 (by decide) ?_
  refine knewI (N' := 80) hx hb (hts _ k_49) hK hP hD hS hA (by decide +kernel) (by decide +kernel) (Nat.le_of_ble_eq_true rfl) (Nat.le_of_ble_eq_true rfl) (Nat.le_of_ble_eq_true rfl) d_Or_init_15 (fun q15 H hP hD hS => ?_)
  have hP : va_P G.1 vwCl ((([(h0, .inr (2, [.ref q7, .null, .null, .null, .int 0, .int 0, .int 0]))]) ++ [(q7, .inl (G.2.1, 80, .inl (fun _ => 0)))]) ++ [(q15, .inl (G.2.1, 80, .inl (fun _ => 0)))]) H := hP
  have hD : va_D A ((([(h0, .inr (2, [.ref q7, .null, .null, .null, .int 0, .int 0, .int 0]))]) ++ [(q7, .inl (G.2.1, 80, .inl (fun _ => 0)))]) ++ [(q15, .inl (G.2.1, 80, .inl (fun _ => 0)))]) := hD
  refine va_putF (D := G.1) (ci := 2) (v := .ref q15) (C := R_Or) (T := T_Or) (N := 7) hx hb hts in_Or ty_Or ty_Or_ok nm_Or hown hK hP hD hS 0 rfl rfl 1 (by decide) (hts _ k_197) (fun _ h9 => h9) rfl hin rfl (ty_Or_ok 1 (by decide)) rfl rfl (Nat.le_of_ble_eq_true rfl) d_Or_init_17 (fun H locs hP hD hS => ?_)
  have hP : va_P G.1 vwCl ((([(h0, .inr (2, [.ref q7, .ref q15, .null, .null, .int 0, .int 0, .int 0]))]) ++ [(q7, .inl (G.2.1, 80, .inl (fun _ => 0)))]) ++ [(q15, .inl (G.2.1, 80, .inl (fun _ => 0)))]) H := hP
  have hD : va_D A ((([(h0, .inr (2, [.ref q7, .ref q15, .null, .null, .int 0, .int 0, .int 0]))]) ++ [(q7, .inl (G.2.1, 80, .inl (fun _ => 0)))]) ++ [(q15, .inl (G.2.1, 80, .inl (fun _ => 0)))]) := hD
  refine lv_aload_n hx hb d_Or_init_20 rfl (lv_at hl 0 rfl) ?_
  refine lv_bipush (v := (80 : Int32)) hx hb d_Or_init_21 (by decide) ?_
  refine knewI (N' := 80) hx hb (hts _ k_49) hK hP hD hS hA (by decide +kernel) (by decide +kernel) (Nat.le_of_ble_eq_true rfl) (Nat.le_of_ble_eq_true rfl) (Nat.le_of_ble_eq_true rfl) d_Or_init_23 (fun q23 H hP hD hS => ?_)
  have hP : va_P G.1 vwCl (((([(h0, .inr (2, [.ref q7, .ref q15, .null, .null, .int 0, .int 0, .int 0]))]) ++ [(q7, .inl (G.2.1, 80, .inl (fun _ => 0)))]) ++ [(q15, .inl (G.2.1, 80, .inl (fun _ => 0)))]) ++ [(q23, .inl (G.2.1, 80, .inl (fun _ => 0)))]) H := hP
  have hD : va_D A (((([(h0, .inr (2, [.ref q7, .ref q15, .null, .null, .int 0, .int 0, .int 0]))]) ++ [(q7, .inl (G.2.1, 80, .inl (fun _ => 0)))]) ++ [(q15, .inl (G.2.1, 80, .inl (fun _ => 0)))]) ++ [(q23, .inl (G.2.1, 80, .inl (fun _ => 0)))]) := hD
  refine va_putF (D := G.1) (ci := 2) (v := .ref q23) (C := R_Or) (T := T_Or) (N := 7) hx hb hts in_Or ty_Or ty_Or_ok nm_Or hown hK hP hD hS 0 rfl rfl 2 (by decide) (hts _ k_198) (fun _ h9 => h9) rfl hin rfl (ty_Or_ok 2 (by decide)) rfl rfl (Nat.le_of_ble_eq_true rfl) d_Or_init_25 (fun H locs hP hD hS => ?_)
  have hP : va_P G.1 vwCl (((([(h0, .inr (2, [.ref q7, .ref q15, .ref q23, .null, .int 0, .int 0, .int 0]))]) ++ [(q7, .inl (G.2.1, 80, .inl (fun _ => 0)))]) ++ [(q15, .inl (G.2.1, 80, .inl (fun _ => 0)))]) ++ [(q23, .inl (G.2.1, 80, .inl (fun _ => 0)))]) H := hP
  have hD : va_D A (((([(h0, .inr (2, [.ref q7, .ref q15, .ref q23, .null, .int 0, .int 0, .int 0]))]) ++ [(q7, .inl (G.2.1, 80, .inl (fun _ => 0)))]) ++ [(q15, .inl (G.2.1, 80, .inl (fun _ => 0)))]) ++ [(q23, .inl (G.2.1, 80, .inl (fun _ => 0)))]) := hD
  refine lv_aload_n hx hb d_Or_init_28 rfl (lv_at hl 0 rfl) ?_
  refine lv_bipush (v := (80 : Int32)) hx hb d_Or_init_29 (by decide) ?_
  refine knewI (N' := 80) hx hb (hts _ k_49) hK hP hD hS hA (by decide +kernel) (by decide +kernel) (Nat.le_of_ble_eq_true rfl) (Nat.le_of_ble_eq_true rfl) (Nat.le_of_ble_eq_true rfl) d_Or_init_31 (fun q31 H hP hD hS => ?_)
  have hP : va_P G.1 vwCl ((((([(h0, .inr (2, [.ref q7, .ref q15, .ref q23, .null, .int 0, .int 0, .int 0]))]) ++ [(q7, .inl (G.2.1, 80, .inl (fun _ => 0)))]) ++ [(q15, .inl (G.2.1, 80, .inl (fun _ => 0)))]) ++ [(q23, .inl (G.2.1, 80, .inl (fun _ => 0)))]) ++ [(q31, .inl (G.2.1, 80, .inl (fun _ => 0)))]) H := hP
  have hD : va_D A ((((([(h0, .inr (2, [.ref q7, .ref q15, .ref q23, .null, .int 0, .int 0, .int 0]))]) ++ [(q7, .inl (G.2.1, 80, .inl (fun _ => 0)))]) ++ [(q15, .inl (G.2.1, 80, .inl (fun _ => 0)))]) ++ [(q23, .inl (G.2.1, 80, .inl (fun _ => 0)))]) ++ [(q31, .inl (G.2.1, 80, .inl (fun _ => 0)))]) := hD
  refine va_putF (D := G.1) (ci := 2) (v := .ref q31) (C := R_Or) (T := T_Or) (N := 7) hx hb hts in_Or ty_Or ty_Or_ok nm_Or hown hK hP hD hS 0 rfl rfl 3 (by decide) (hts _ k_199) (fun _ h9 => h9) rfl hin rfl (ty_Or_ok 3 (by decide)) rfl rfl (Nat.le_of_ble_eq_true rfl) d_Or_init_33 (fun H locs hP hD hS => ?_)
  have hP : va_P G.1 vwCl ((((([(h0, .inr (2, [.ref q7, .ref q15, .ref q23, .ref q31, .int 0, .int 0, .int 0]))]) ++ [(q7, .inl (G.2.1, 80, .inl (fun _ => 0)))]) ++ [(q15, .inl (G.2.1, 80, .inl (fun _ => 0)))]) ++ [(q23, .inl (G.2.1, 80, .inl (fun _ => 0)))]) ++ [(q31, .inl (G.2.1, 80, .inl (fun _ => 0)))]) H := hP
  have hD : va_D A ((((([(h0, .inr (2, [.ref q7, .ref q15, .ref q23, .ref q31, .int 0, .int 0, .int 0]))]) ++ [(q7, .inl (G.2.1, 80, .inl (fun _ => 0)))]) ++ [(q15, .inl (G.2.1, 80, .inl (fun _ => 0)))]) ++ [(q23, .inl (G.2.1, 80, .inl (fun _ => 0)))]) ++ [(q31, .inl (G.2.1, 80, .inl (fun _ => 0)))]) := hD
  refine lv_aload_n hx hb d_Or_init_36 rfl (lv_at hl 0 rfl) ?_
  refine lv_iconst (v := (0 : Int32)) hx hb d_Or_init_37 (by decide) ?_
  refine va_put (D := G.1) (ci := 2) (v := .int (0 : Int32)) (C := R_Or) (T := T_Or) (N := 7) hx hb hts in_Or ty_Or ty_Or_ok nm_Or hown hK hP hD hS 0 rfl rfl 4 (by decide) (hts _ k_200) (fun _ h9 => h9) rfl (ty_Or_ok 4 (by decide)) rfl rfl (Nat.le_of_ble_eq_true rfl) d_Or_init_38 (fun H locs hP hD hS => ?_)
  have hP : va_P G.1 vwCl ((((([(h0, .inr (2, [.ref q7, .ref q15, .ref q23, .ref q31, .int (0 : Int32), .int 0, .int 0]))]) ++ [(q7, .inl (G.2.1, 80, .inl (fun _ => 0)))]) ++ [(q15, .inl (G.2.1, 80, .inl (fun _ => 0)))]) ++ [(q23, .inl (G.2.1, 80, .inl (fun _ => 0)))]) ++ [(q31, .inl (G.2.1, 80, .inl (fun _ => 0)))]) H := hP
  have hD : va_D A ((((([(h0, .inr (2, [.ref q7, .ref q15, .ref q23, .ref q31, .int (0 : Int32), .int 0, .int 0]))]) ++ [(q7, .inl (G.2.1, 80, .inl (fun _ => 0)))]) ++ [(q15, .inl (G.2.1, 80, .inl (fun _ => 0)))]) ++ [(q23, .inl (G.2.1, 80, .inl (fun _ => 0)))]) ++ [(q31, .inl (G.2.1, 80, .inl (fun _ => 0)))]) := hD
  refine lv_aload_n hx hb d_Or_init_41 rfl (lv_at hl 0 rfl) ?_
  refine lv_iconst (v := (0 : Int32)) hx hb d_Or_init_42 (by decide) ?_
  refine va_put (D := G.1) (ci := 2) (v := .int (0 : Int32)) (C := R_Or) (T := T_Or) (N := 7) hx hb hts in_Or ty_Or ty_Or_ok nm_Or hown hK hP hD hS 0 rfl rfl 5 (by decide) (hts _ k_201) (fun _ h9 => h9) rfl (ty_Or_ok 5 (by decide)) rfl rfl (Nat.le_of_ble_eq_true rfl) d_Or_init_43 (fun H locs hP hD hS => ?_)
  have hP : va_P G.1 vwCl ((((([(h0, .inr (2, [.ref q7, .ref q15, .ref q23, .ref q31, .int (0 : Int32), .int (0 : Int32), .int 0]))]) ++ [(q7, .inl (G.2.1, 80, .inl (fun _ => 0)))]) ++ [(q15, .inl (G.2.1, 80, .inl (fun _ => 0)))]) ++ [(q23, .inl (G.2.1, 80, .inl (fun _ => 0)))]) ++ [(q31, .inl (G.2.1, 80, .inl (fun _ => 0)))]) H := hP
  have hD : va_D A ((((([(h0, .inr (2, [.ref q7, .ref q15, .ref q23, .ref q31, .int (0 : Int32), .int (0 : Int32), .int 0]))]) ++ [(q7, .inl (G.2.1, 80, .inl (fun _ => 0)))]) ++ [(q15, .inl (G.2.1, 80, .inl (fun _ => 0)))]) ++ [(q23, .inl (G.2.1, 80, .inl (fun _ => 0)))]) ++ [(q31, .inl (G.2.1, 80, .inl (fun _ => 0)))]) := hD
  refine lv_aload_n hx hb d_Or_init_46 rfl (lv_at hl 0 rfl) ?_
  refine lv_bipush (v := (-6 : Int32)) hx hb d_Or_init_47 (by decide) ?_
  refine va_put (D := G.1) (ci := 2) (v := .int (-6 : Int32)) (C := R_Or) (T := T_Or) (N := 7) hx hb hts in_Or ty_Or ty_Or_ok nm_Or hown hK hP hD hS 0 rfl rfl 6 (by decide) (hts _ k_202) (fun _ h9 => h9) rfl (ty_Or_ok 6 (by decide)) rfl rfl (Nat.le_of_ble_eq_true rfl) d_Or_init_49 (fun H locs hP hD hS => ?_)
  have hP : va_P G.1 vwCl ((((([(h0, .inr (2, [.ref q7, .ref q15, .ref q23, .ref q31, .int (0 : Int32), .int (0 : Int32), .int (-6 : Int32)]))]) ++ [(q7, .inl (G.2.1, 80, .inl (fun _ => 0)))]) ++ [(q15, .inl (G.2.1, 80, .inl (fun _ => 0)))]) ++ [(q23, .inl (G.2.1, 80, .inl (fun _ => 0)))]) ++ [(q31, .inl (G.2.1, 80, .inl (fun _ => 0)))]) H := hP
  have hD : va_D A ((((([(h0, .inr (2, [.ref q7, .ref q15, .ref q23, .ref q31, .int (0 : Int32), .int (0 : Int32), .int (-6 : Int32)]))]) ++ [(q7, .inl (G.2.1, 80, .inl (fun _ => 0)))]) ++ [(q15, .inl (G.2.1, 80, .inl (fun _ => 0)))]) ++ [(q23, .inl (G.2.1, 80, .inl (fun _ => 0)))]) ++ [(q31, .inl (G.2.1, 80, .inl (fun _ => 0)))]) := hD
  refine W.widen (k := 4) (n := 320) (Nat.le_of_ble_eq_true rfl) (Nat.le_of_ble_eq_true rfl) ?_
  have hP : va_P G.1 vwCl (W_Or G (fun j => if j = 0 then h0 else if j < 2 then q7 else if j < 3 then q15 else if j < 4 then q23 else q31) Or0) H := hP
  have hD : va_D A (W_Or G (fun j => if j = 0 then h0 else if j < 2 then q7 else if j < 3 then q15 else if j < 4 then q23 else q31) Or0) := hD
  exact kC (u := (fun j => if j = 0 then h0 else if j < 2 then q7 else if j < 3 then q15 else if j < 4 then q23 else q31)) hx hb hr hlk hP hD hS rfl d_Or_init_52

set_option maxHeartbeats 4000000 in
set_option maxRecDepth 100000 in
theorem t_Sl_init (l : Launch) (G : GG) (h0 : Nat) : MC (S := Nat → Nat) l G y_Sl_init c_Sl_init 1 { frames := 1, cells := 1, slots := 2, locals := 12 } ([(h0, .inr (5, [.null]))]) h0 (fun u => W_S0 G u S00) (fun u => u 0) := by
  refine ofC "FloodDiary$Slots" (by decide +kernel) rfl rfl (Nat.le_of_ble_eq_true rfl) (fun p e s m args below meth c A ls hx hb hr hml hown hin hts hlk hK hN hA hP hD hS hl => ?_)
  have hl : lv_has ls 1 [(0, .ref h0)] := hl
  refine lv_aload_n hx hb d_Sl_init_0 rfl (lv_at hl 0 rfl) ?_
  refine W.objInit (own := "FloodDiary$Slots") (idx := 3) hx hb hown (hts _ k_170) (hts _ k_19) (hts _ k_20) rfl (by rw [hml]; exact hl.1) rfl d_Sl_init_1 (Nat.le_of_ble_eq_true rfl) (Nat.le_of_ble_eq_true rfl) ?_
  refine W.eq (g2 := F0 m 4 ls []) rfl ?_
  refine lv_aload_n hx hb d_Sl_init_4 rfl (lv_at hl 0 rfl) ?_
  refine lv_iconst (v := (2 : Int32)) hx hb d_Sl_init_5 (by decide) ?_
  refine knewQ (N' := 2) (own := "FloodDiary$Slots") (index := 9) hx hb hown (hts _ k_171) hN.2.2 hK hP hD hS hA (by decide +kernel) (by decide +kernel) (Nat.le_of_ble_eq_true rfl) (Nat.le_of_ble_eq_true rfl) (Nat.le_of_ble_eq_true rfl) d_Sl_init_6 (fun q6 H hP hD hS => ?_)
  have hP : va_P G.1 vwCl (([(h0, .inr (5, [.null]))]) ++ [(q6, .inl (G.2.2.2.2, 2, .inr (.inr (.inr (.inr (fun _ => none))))))]) H := hP
  have hD : va_D A (([(h0, .inr (5, [.null]))]) ++ [(q6, .inl (G.2.2.2.2, 2, .inr (.inr (.inr (.inr (fun _ => none))))))]) := hD
  refine va_putF (D := G.1) (ci := 5) (v := .ref q6) (C := R_Sl) (T := T_Sl) (N := 1) hx hb hts in_Sl ty_Sl ty_Sl_ok nm_Sl hown hK hP hD hS 0 rfl rfl 0 (by decide) (hts _ k_172) (fun _ h9 => h9) rfl hin rfl (ty_Sl_ok 0 (by decide)) rfl rfl (Nat.le_of_ble_eq_true rfl) d_Sl_init_9 (fun H locs hP hD hS => ?_)
  have hP : va_P G.1 vwCl (([(h0, .inr (5, [.ref q6]))]) ++ [(q6, .inl (G.2.2.2.2, 2, .inr (.inr (.inr (.inr (fun _ => none))))))]) H := hP
  have hD : va_D A (([(h0, .inr (5, [.ref q6]))]) ++ [(q6, .inl (G.2.2.2.2, 2, .inr (.inr (.inr (.inr (fun _ => none))))))]) := hD
  refine W.widen (k := 1) (n := 2) (Nat.le_of_ble_eq_true rfl) (Nat.le_of_ble_eq_true rfl) ?_
  have hP : va_P G.1 vwCl (W_S0 G (fun j => if j = 0 then h0 else q6) S00) H := hP
  have hD : va_D A (W_S0 G (fun j => if j = 0 then h0 else q6) S00) := hD
  exact kC (u := (fun j => if j = 0 then h0 else q6)) hx hb hr hlk hP hD hS rfl d_Sl_init_12

set_option maxHeartbeats 4000000 in
set_option maxRecDepth 100000 in
theorem t_Md_init (l : Launch) (G : GG) (h0 : Nat) : MC (S := Nat → Nat) l G y_Md_init c_Md_init 1 { frames := 1, cells := 6, slots := 24082, locals := 12 } ([(h0, .inr (9, [.null, .null, .null, .int 0, .null, .null, .null, .int 0, .int 0]))]) h0 (fun u => W_Md G u Md0) (fun u => u 0) := by
  refine ofC "FloodDiaryModel" (by decide +kernel) rfl rfl (Nat.le_of_ble_eq_true rfl) (fun p e s m args below meth c A ls hx hb hr hml hown hin hts hlk hK hN hA hP hD hS hl => ?_)
  have hl : lv_has ls 1 [(0, .ref h0)] := hl
  refine lv_aload_n hx hb d_Md_init_0 rfl (lv_at hl 0 rfl) ?_
  refine W.objInit (own := "FloodDiaryModel") (idx := 1) hx hb hown (hts _ k_752) (hts _ k_19) (hts _ k_20) rfl (by rw [hml]; exact hl.1) rfl d_Md_init_1 (Nat.le_of_ble_eq_true rfl) (Nat.le_of_ble_eq_true rfl) ?_
  refine W.eq (g2 := F0 m 4 ls []) rfl ?_
  refine lv_aload_n hx hb d_Md_init_4 rfl (lv_at hl 0 rfl) ?_
  refine lv_sipush (v := (2400 : Int32)) hx hb d_Md_init_5 (by decide) ?_
  refine knewI (N' := 2400) hx hb (hts _ k_49) hK hP hD hS hA (by decide +kernel) (by decide +kernel) (Nat.le_of_ble_eq_true rfl) (Nat.le_of_ble_eq_true rfl) (Nat.le_of_ble_eq_true rfl) d_Md_init_8 (fun q8 H hP hD hS => ?_)
  have hP : va_P G.1 vwCl (([(h0, .inr (9, [.null, .null, .null, .int 0, .null, .null, .null, .int 0, .int 0]))]) ++ [(q8, .inl (G.2.1, 2400, .inl (fun _ => 0)))]) H := hP
  have hD : va_D A (([(h0, .inr (9, [.null, .null, .null, .int 0, .null, .null, .null, .int 0, .int 0]))]) ++ [(q8, .inl (G.2.1, 2400, .inl (fun _ => 0)))]) := hD
  refine va_putF (D := G.1) (ci := 9) (v := .ref q8) (C := R_Md) (T := T_Md) (N := 9) hx hb hts in_Md ty_Md ty_Md_ok nm_Md hown hK hP hD hS 0 rfl rfl 0 (by decide) (hts _ k_753) (fun _ h9 => h9) rfl hin rfl (ty_Md_ok 0 (by decide)) rfl rfl (Nat.le_of_ble_eq_true rfl) d_Md_init_10 (fun H locs hP hD hS => ?_)
  have hP : va_P G.1 vwCl (([(h0, .inr (9, [.ref q8, .null, .null, .int 0, .null, .null, .null, .int 0, .int 0]))]) ++ [(q8, .inl (G.2.1, 2400, .inl (fun _ => 0)))]) H := hP
  have hD : va_D A (([(h0, .inr (9, [.ref q8, .null, .null, .int 0, .null, .null, .null, .int 0, .int 0]))]) ++ [(q8, .inl (G.2.1, 2400, .inl (fun _ => 0)))]) := hD
  refine lv_aload_n hx hb d_Md_init_13 rfl (lv_at hl 0 rfl) ?_
  refine lv_sipush (v := (2400 : Int32)) hx hb d_Md_init_14 (by decide) ?_
  refine knewI (N' := 2400) hx hb (hts _ k_49) hK hP hD hS hA (by decide +kernel) (by decide +kernel) (Nat.le_of_ble_eq_true rfl) (Nat.le_of_ble_eq_true rfl) (Nat.le_of_ble_eq_true rfl) d_Md_init_17 (fun q17 H hP hD hS => ?_)
  have hP : va_P G.1 vwCl ((([(h0, .inr (9, [.ref q8, .null, .null, .int 0, .null, .null, .null, .int 0, .int 0]))]) ++ [(q8, .inl (G.2.1, 2400, .inl (fun _ => 0)))]) ++ [(q17, .inl (G.2.1, 2400, .inl (fun _ => 0)))]) H := hP
  have hD : va_D A ((([(h0, .inr (9, [.ref q8, .null, .null, .int 0, .null, .null, .null, .int 0, .int 0]))]) ++ [(q8, .inl (G.2.1, 2400, .inl (fun _ => 0)))]) ++ [(q17, .inl (G.2.1, 2400, .inl (fun _ => 0)))]) := hD
  refine va_putF (D := G.1) (ci := 9) (v := .ref q17) (C := R_Md) (T := T_Md) (N := 9) hx hb hts in_Md ty_Md ty_Md_ok nm_Md hown hK hP hD hS 0 rfl rfl 1 (by decide) (hts _ k_754) (fun _ h9 => h9) rfl hin rfl (ty_Md_ok 1 (by decide)) rfl rfl (Nat.le_of_ble_eq_true rfl) d_Md_init_19 (fun H locs hP hD hS => ?_)
  have hP : va_P G.1 vwCl ((([(h0, .inr (9, [.ref q8, .ref q17, .null, .int 0, .null, .null, .null, .int 0, .int 0]))]) ++ [(q8, .inl (G.2.1, 2400, .inl (fun _ => 0)))]) ++ [(q17, .inl (G.2.1, 2400, .inl (fun _ => 0)))]) H := hP
  have hD : va_D A ((([(h0, .inr (9, [.ref q8, .ref q17, .null, .int 0, .null, .null, .null, .int 0, .int 0]))]) ++ [(q8, .inl (G.2.1, 2400, .inl (fun _ => 0)))]) ++ [(q17, .inl (G.2.1, 2400, .inl (fun _ => 0)))]) := hD
  refine lv_aload_n hx hb d_Md_init_22 rfl (lv_at hl 0 rfl) ?_
  refine lv_sipush (v := (14400 : Int32)) hx hb d_Md_init_23 (by decide) ?_
  refine knewI (N' := 14400) hx hb (hts _ k_49) hK hP hD hS hA (by decide +kernel) (by decide +kernel) (Nat.le_of_ble_eq_true rfl) (Nat.le_of_ble_eq_true rfl) (Nat.le_of_ble_eq_true rfl) d_Md_init_26 (fun q26 H hP hD hS => ?_)
  have hP : va_P G.1 vwCl (((([(h0, .inr (9, [.ref q8, .ref q17, .null, .int 0, .null, .null, .null, .int 0, .int 0]))]) ++ [(q8, .inl (G.2.1, 2400, .inl (fun _ => 0)))]) ++ [(q17, .inl (G.2.1, 2400, .inl (fun _ => 0)))]) ++ [(q26, .inl (G.2.1, 14400, .inl (fun _ => 0)))]) H := hP
  have hD : va_D A (((([(h0, .inr (9, [.ref q8, .ref q17, .null, .int 0, .null, .null, .null, .int 0, .int 0]))]) ++ [(q8, .inl (G.2.1, 2400, .inl (fun _ => 0)))]) ++ [(q17, .inl (G.2.1, 2400, .inl (fun _ => 0)))]) ++ [(q26, .inl (G.2.1, 14400, .inl (fun _ => 0)))]) := hD
  refine va_putF (D := G.1) (ci := 9) (v := .ref q26) (C := R_Md) (T := T_Md) (N := 9) hx hb hts in_Md ty_Md ty_Md_ok nm_Md hown hK hP hD hS 0 rfl rfl 2 (by decide) (hts _ k_755) (fun _ h9 => h9) rfl hin rfl (ty_Md_ok 2 (by decide)) rfl rfl (Nat.le_of_ble_eq_true rfl) d_Md_init_28 (fun H locs hP hD hS => ?_)
  have hP : va_P G.1 vwCl (((([(h0, .inr (9, [.ref q8, .ref q17, .ref q26, .int 0, .null, .null, .null, .int 0, .int 0]))]) ++ [(q8, .inl (G.2.1, 2400, .inl (fun _ => 0)))]) ++ [(q17, .inl (G.2.1, 2400, .inl (fun _ => 0)))]) ++ [(q26, .inl (G.2.1, 14400, .inl (fun _ => 0)))]) H := hP
  have hD : va_D A (((([(h0, .inr (9, [.ref q8, .ref q17, .ref q26, .int 0, .null, .null, .null, .int 0, .int 0]))]) ++ [(q8, .inl (G.2.1, 2400, .inl (fun _ => 0)))]) ++ [(q17, .inl (G.2.1, 2400, .inl (fun _ => 0)))]) ++ [(q26, .inl (G.2.1, 14400, .inl (fun _ => 0)))]) := hD
  refine lv_aload_n hx hb d_Md_init_31 rfl (lv_at hl 0 rfl) ?_
  refine lv_sipush (v := (4800 : Int32)) hx hb d_Md_init_32 (by decide) ?_
  refine knewI (N' := 4800) hx hb (hts _ k_49) hK hP hD hS hA (by decide +kernel) (by decide +kernel) (Nat.le_of_ble_eq_true rfl) (Nat.le_of_ble_eq_true rfl) (Nat.le_of_ble_eq_true rfl) d_Md_init_35 (fun q35 H hP hD hS => ?_)
  have hP : va_P G.1 vwCl ((((([(h0, .inr (9, [.ref q8, .ref q17, .ref q26, .int 0, .null, .null, .null, .int 0, .int 0]))]) ++ [(q8, .inl (G.2.1, 2400, .inl (fun _ => 0)))]) ++ [(q17, .inl (G.2.1, 2400, .inl (fun _ => 0)))]) ++ [(q26, .inl (G.2.1, 14400, .inl (fun _ => 0)))]) ++ [(q35, .inl (G.2.1, 4800, .inl (fun _ => 0)))]) H := hP
  have hD : va_D A ((((([(h0, .inr (9, [.ref q8, .ref q17, .ref q26, .int 0, .null, .null, .null, .int 0, .int 0]))]) ++ [(q8, .inl (G.2.1, 2400, .inl (fun _ => 0)))]) ++ [(q17, .inl (G.2.1, 2400, .inl (fun _ => 0)))]) ++ [(q26, .inl (G.2.1, 14400, .inl (fun _ => 0)))]) ++ [(q35, .inl (G.2.1, 4800, .inl (fun _ => 0)))]) := hD
  refine va_putF (D := G.1) (ci := 9) (v := .ref q35) (C := R_Md) (T := T_Md) (N := 9) hx hb hts in_Md ty_Md ty_Md_ok nm_Md hown hK hP hD hS 0 rfl rfl 4 (by decide) (hts _ k_757) (fun _ h9 => h9) rfl hin rfl (ty_Md_ok 4 (by decide)) rfl rfl (Nat.le_of_ble_eq_true rfl) d_Md_init_37 (fun H locs hP hD hS => ?_)
  have hP : va_P G.1 vwCl ((((([(h0, .inr (9, [.ref q8, .ref q17, .ref q26, .int 0, .ref q35, .null, .null, .int 0, .int 0]))]) ++ [(q8, .inl (G.2.1, 2400, .inl (fun _ => 0)))]) ++ [(q17, .inl (G.2.1, 2400, .inl (fun _ => 0)))]) ++ [(q26, .inl (G.2.1, 14400, .inl (fun _ => 0)))]) ++ [(q35, .inl (G.2.1, 4800, .inl (fun _ => 0)))]) H := hP
  have hD : va_D A ((((([(h0, .inr (9, [.ref q8, .ref q17, .ref q26, .int 0, .ref q35, .null, .null, .int 0, .int 0]))]) ++ [(q8, .inl (G.2.1, 2400, .inl (fun _ => 0)))]) ++ [(q17, .inl (G.2.1, 2400, .inl (fun _ => 0)))]) ++ [(q26, .inl (G.2.1, 14400, .inl (fun _ => 0)))]) ++ [(q35, .inl (G.2.1, 4800, .inl (fun _ => 0)))]) := hD
  refine lv_aload_n hx hb d_Md_init_40 rfl (lv_at hl 0 rfl) ?_
  refine lv_iconst (v := (2 : Int32)) hx hb d_Md_init_41 (by decide) ?_
  refine knewZ (N' := 2) hx hb (hts _ k_781) hK hP hD hS hA (by decide +kernel) (by decide +kernel) (Nat.le_of_ble_eq_true rfl) (Nat.le_of_ble_eq_true rfl) (Nat.le_of_ble_eq_true rfl) d_Md_init_42 (fun q42 H hP hD hS => ?_)
  have hP : va_P G.1 vwCl (((((([(h0, .inr (9, [.ref q8, .ref q17, .ref q26, .int 0, .ref q35, .null, .null, .int 0, .int 0]))]) ++ [(q8, .inl (G.2.1, 2400, .inl (fun _ => 0)))]) ++ [(q17, .inl (G.2.1, 2400, .inl (fun _ => 0)))]) ++ [(q26, .inl (G.2.1, 14400, .inl (fun _ => 0)))]) ++ [(q35, .inl (G.2.1, 4800, .inl (fun _ => 0)))]) ++ [(q42, .inl (G.2.2.2.1, 2, .inl (fun _ => 0)))]) H := hP
  have hD : va_D A (((((([(h0, .inr (9, [.ref q8, .ref q17, .ref q26, .int 0, .ref q35, .null, .null, .int 0, .int 0]))]) ++ [(q8, .inl (G.2.1, 2400, .inl (fun _ => 0)))]) ++ [(q17, .inl (G.2.1, 2400, .inl (fun _ => 0)))]) ++ [(q26, .inl (G.2.1, 14400, .inl (fun _ => 0)))]) ++ [(q35, .inl (G.2.1, 4800, .inl (fun _ => 0)))]) ++ [(q42, .inl (G.2.2.2.1, 2, .inl (fun _ => 0)))]) := hD
  refine va_putF (D := G.1) (ci := 9) (v := .ref q42) (C := R_Md) (T := T_Md) (N := 9) hx hb hts in_Md ty_Md ty_Md_ok nm_Md hown hK hP hD hS 0 rfl rfl 5 (by decide) (hts _ k_758) (fun _ h9 => h9) rfl hin rfl (ty_Md_ok 5 (by decide)) rfl rfl (Nat.le_of_ble_eq_true rfl) d_Md_init_44 (fun H locs hP hD hS => ?_)
  have hP : va_P G.1 vwCl (((((([(h0, .inr (9, [.ref q8, .ref q17, .ref q26, .int 0, .ref q35, .ref q42, .null, .int 0, .int 0]))]) ++ [(q8, .inl (G.2.1, 2400, .inl (fun _ => 0)))]) ++ [(q17, .inl (G.2.1, 2400, .inl (fun _ => 0)))]) ++ [(q26, .inl (G.2.1, 14400, .inl (fun _ => 0)))]) ++ [(q35, .inl (G.2.1, 4800, .inl (fun _ => 0)))]) ++ [(q42, .inl (G.2.2.2.1, 2, .inl (fun _ => 0)))]) H := hP
  have hD : va_D A (((((([(h0, .inr (9, [.ref q8, .ref q17, .ref q26, .int 0, .ref q35, .ref q42, .null, .int 0, .int 0]))]) ++ [(q8, .inl (G.2.1, 2400, .inl (fun _ => 0)))]) ++ [(q17, .inl (G.2.1, 2400, .inl (fun _ => 0)))]) ++ [(q26, .inl (G.2.1, 14400, .inl (fun _ => 0)))]) ++ [(q35, .inl (G.2.1, 4800, .inl (fun _ => 0)))]) ++ [(q42, .inl (G.2.2.2.1, 2, .inl (fun _ => 0)))]) := hD
  refine lv_aload_n hx hb d_Md_init_47 rfl (lv_at hl 0 rfl) ?_
  refine lv_bipush (v := (80 : Int32)) hx hb d_Md_init_48 (by decide) ?_
  refine knewI (N' := 80) hx hb (hts _ k_49) hK hP hD hS hA (by decide +kernel) (by decide +kernel) (Nat.le_of_ble_eq_true rfl) (Nat.le_of_ble_eq_true rfl) (Nat.le_of_ble_eq_true rfl) d_Md_init_50 (fun q50 H hP hD hS => ?_)
  have hP : va_P G.1 vwCl ((((((([(h0, .inr (9, [.ref q8, .ref q17, .ref q26, .int 0, .ref q35, .ref q42, .null, .int 0, .int 0]))]) ++ [(q8, .inl (G.2.1, 2400, .inl (fun _ => 0)))]) ++ [(q17, .inl (G.2.1, 2400, .inl (fun _ => 0)))]) ++ [(q26, .inl (G.2.1, 14400, .inl (fun _ => 0)))]) ++ [(q35, .inl (G.2.1, 4800, .inl (fun _ => 0)))]) ++ [(q42, .inl (G.2.2.2.1, 2, .inl (fun _ => 0)))]) ++ [(q50, .inl (G.2.1, 80, .inl (fun _ => 0)))]) H := hP
  have hD : va_D A ((((((([(h0, .inr (9, [.ref q8, .ref q17, .ref q26, .int 0, .ref q35, .ref q42, .null, .int 0, .int 0]))]) ++ [(q8, .inl (G.2.1, 2400, .inl (fun _ => 0)))]) ++ [(q17, .inl (G.2.1, 2400, .inl (fun _ => 0)))]) ++ [(q26, .inl (G.2.1, 14400, .inl (fun _ => 0)))]) ++ [(q35, .inl (G.2.1, 4800, .inl (fun _ => 0)))]) ++ [(q42, .inl (G.2.2.2.1, 2, .inl (fun _ => 0)))]) ++ [(q50, .inl (G.2.1, 80, .inl (fun _ => 0)))]) := hD
  refine va_putF (D := G.1) (ci := 9) (v := .ref q50) (C := R_Md) (T := T_Md) (N := 9) hx hb hts in_Md ty_Md ty_Md_ok nm_Md hown hK hP hD hS 0 rfl rfl 6 (by decide) (hts _ k_759) (fun _ h9 => h9) rfl hin rfl (ty_Md_ok 6 (by decide)) rfl rfl (Nat.le_of_ble_eq_true rfl) d_Md_init_52 (fun H locs hP hD hS => ?_)
  have hP : va_P G.1 vwCl ((((((([(h0, .inr (9, [.ref q8, .ref q17, .ref q26, .int 0, .ref q35, .ref q42, .ref q50, .int 0, .int 0]))]) ++ [(q8, .inl (G.2.1, 2400, .inl (fun _ => 0)))]) ++ [(q17, .inl (G.2.1, 2400, .inl (fun _ => 0)))]) ++ [(q26, .inl (G.2.1, 14400, .inl (fun _ => 0)))]) ++ [(q35, .inl (G.2.1, 4800, .inl (fun _ => 0)))]) ++ [(q42, .inl (G.2.2.2.1, 2, .inl (fun _ => 0)))]) ++ [(q50, .inl (G.2.1, 80, .inl (fun _ => 0)))]) H := hP
  have hD : va_D A ((((((([(h0, .inr (9, [.ref q8, .ref q17, .ref q26, .int 0, .ref q35, .ref q42, .ref q50, .int 0, .int 0]))]) ++ [(q8, .inl (G.2.1, 2400, .inl (fun _ => 0)))]) ++ [(q17, .inl (G.2.1, 2400, .inl (fun _ => 0)))]) ++ [(q26, .inl (G.2.1, 14400, .inl (fun _ => 0)))]) ++ [(q35, .inl (G.2.1, 4800, .inl (fun _ => 0)))]) ++ [(q42, .inl (G.2.2.2.1, 2, .inl (fun _ => 0)))]) ++ [(q50, .inl (G.2.1, 80, .inl (fun _ => 0)))]) := hD
  refine lv_aload_n hx hb d_Md_init_55 rfl (lv_at hl 0 rfl) ?_
  refine lv_iconst (v := (0 : Int32)) hx hb d_Md_init_56 (by decide) ?_
  refine va_put (D := G.1) (ci := 9) (v := .int (0 : Int32)) (C := R_Md) (T := T_Md) (N := 9) hx hb hts in_Md ty_Md ty_Md_ok nm_Md hown hK hP hD hS 0 rfl rfl 3 (by decide) (hts _ k_756) (fun _ h9 => h9) rfl (ty_Md_ok 3 (by decide)) rfl rfl (Nat.le_of_ble_eq_true rfl) d_Md_init_57 (fun H locs hP hD hS => ?_)
  have hP : va_P G.1 vwCl ((((((([(h0, .inr (9, [.ref q8, .ref q17, .ref q26, .int (0 : Int32), .ref q35, .ref q42, .ref q50, .int 0, .int 0]))]) ++ [(q8, .inl (G.2.1, 2400, .inl (fun _ => 0)))]) ++ [(q17, .inl (G.2.1, 2400, .inl (fun _ => 0)))]) ++ [(q26, .inl (G.2.1, 14400, .inl (fun _ => 0)))]) ++ [(q35, .inl (G.2.1, 4800, .inl (fun _ => 0)))]) ++ [(q42, .inl (G.2.2.2.1, 2, .inl (fun _ => 0)))]) ++ [(q50, .inl (G.2.1, 80, .inl (fun _ => 0)))]) H := hP
  have hD : va_D A ((((((([(h0, .inr (9, [.ref q8, .ref q17, .ref q26, .int (0 : Int32), .ref q35, .ref q42, .ref q50, .int 0, .int 0]))]) ++ [(q8, .inl (G.2.1, 2400, .inl (fun _ => 0)))]) ++ [(q17, .inl (G.2.1, 2400, .inl (fun _ => 0)))]) ++ [(q26, .inl (G.2.1, 14400, .inl (fun _ => 0)))]) ++ [(q35, .inl (G.2.1, 4800, .inl (fun _ => 0)))]) ++ [(q42, .inl (G.2.2.2.1, 2, .inl (fun _ => 0)))]) ++ [(q50, .inl (G.2.1, 80, .inl (fun _ => 0)))]) := hD
  refine W.widen (k := 6) (n := 24082) (Nat.le_of_ble_eq_true rfl) (Nat.le_of_ble_eq_true rfl) ?_
  have hP : va_P G.1 vwCl (W_Md G (fun j => if j = 0 then h0 else if j < 2 then q8 else if j < 3 then q17 else if j < 4 then q26 else if j < 5 then q35 else if j < 6 then q42 else q50) Md0) H := hP
  have hD : va_D A (W_Md G (fun j => if j = 0 then h0 else if j < 2 then q8 else if j < 3 then q17 else if j < 4 then q26 else if j < 5 then q35 else if j < 6 then q42 else q50) Md0) := hD
  exact kC (u := (fun j => if j = 0 then h0 else if j < 2 then q8 else if j < 3 then q17 else if j < 4 then q26 else if j < 5 then q35 else if j < 6 then q42 else q50)) hx hb hr hlk hP hD hS rfl d_Md_init_60
