theorem W_Pd_cg (G : GG) (v : V_Pd) (a b : Nat → Nat) (h : ∀ j, j < 2 → a j = b j) : W_Pd G a v = W_Pd G b v := by
  have h0 := h 0 (by omega)
  have h1 := h 1 (by omega)
  simp only [W_Pd, sh, Nat.reduceAdd, h0, h1]
theorem W_Or_cg (G : GG) (v : V_Or) (a b : Nat → Nat) (h : ∀ j, j < 5 → a j = b j) : W_Or G a v = W_Or G b v := by
  have h0 := h 0 (by omega)
  have h1 := h 1 (by omega)
  have h2 := h 2 (by omega)
  have h3 := h 3 (by omega)
  have h4 := h 4 (by omega)
  simp only [W_Or, sh, Nat.reduceAdd, h0, h1, h2, h3, h4]
theorem W_St_cg (G : GG) (v : V_St) (a b : Nat → Nat) (h : ∀ j, j < 20 → a j = b j) : W_St G a v = W_St G b v := by
  have h0 := h 0 (by omega)
  have h1 := h 1 (by omega)
  have h2 := h 2 (by omega)
  have h3 := h 3 (by omega)
  have h4 := h 4 (by omega)
  have h5 := h 5 (by omega)
  have h6 := h 6 (by omega)
  have h7 := h 7 (by omega)
  have h8 := h 8 (by omega)
  have h9 := h 9 (by omega)
  have h10 := h 10 (by omega)
  have h11 := h 11 (by omega)
  have h12 := h 12 (by omega)
  have h13 := h 13 (by omega)
  have h14 := h 14 (by omega)
  have h15 := h 15 (by omega)
  have h16 := h 16 (by omega)
  have h17 := h 17 (by omega)
  have h18 := h 18 (by omega)
  have h19 := h 19 (by omega)
  simp only [W_St, O_St, W_Pg, W_Dy, W_Wk, sh, Nat.reduceAdd, h0, h1, h2, h3, h4, h5, h6, h7, h8, h9, h10, h11, h12, h13, h14, h15, h16, h17, h18, h19]
theorem pm_fd (x0 x1 x2 x3 x4 x5 x6 : va_W) : List.Perm (((((((x0 ++ x1) ++ x2) ++ x3) ++ x4) ++ x5) ++ x6)) (x0 ++ (x1 ++ (x2 ++ (x5 ++ (x6 ++ (x3 ++ (x4 ++ []))))))) := prm (fun d z => by simp only [List.count_append, List.count_nil]; omega)
set_option maxHeartbeats 4000000 in
set_option maxRecDepth 100000 in
theorem t_Fd_init (l : Launch) (G : GG) (h0 : Nat) : MC (S := (Nat → Nat) × (Nat → Nat)) l G y_Fd_init c_Fd_init 1 { frames := 4, cells := 191, slots := 20654, locals := 73 } ([(h0, .inr (8, [.null, .null, .null, .null, .null, .null]))]) h0 (fun u => W_Fd G u.1 (u.2 0) (W_S0 G u.2 S00) Fd0) (fun u => u.1 0) := by
  refine ofC "FloodDiary" (by decide +kernel) rfl rfl (Nat.le_of_ble_eq_true rfl) (fun p e s m args below meth c A ls hx hb hr hml hown hin hts hlk hK hN hA hP hD hS hl => ?_)
  have hl : lv_has ls 1 [(0, .ref h0)] := hl
  refine lv_aload_n hx hb d_Fd_init_0 rfl (lv_at hl 0 rfl) ?_
  refine W.objInit (own := "FloodDiary") (idx := 3) hx hb hown (hts _ k_18) (hts _ k_19) (hts _ k_20) rfl (by rw [hml]; exact hl.1) rfl d_Fd_init_1 (Nat.le_of_ble_eq_true rfl) (Nat.le_of_ble_eq_true rfl) ?_
  refine W.eq (g2 := F0 m 4 ls []) rfl ?_
  refine lv_aload_n hx hb d_Fd_init_4 rfl (lv_at hl 0 rfl) ?_
  refine va_new (ci := 6) (fs := [.null, .null, .null, .int 0, .int 0, .int 0, .int 0, .int 0, .int 0]) (C := R_St) (T := T_St) (N := 9) hx hb hts in_St ty_St ty_St_ok hown (hts _ k_21) (hts _ k_22) (hts _ k_2) hK hP hD hS hA rfl (fun j hj => by rcases (show j = 0 ∨ j = 1 ∨ j = 2 ∨ j = 3 ∨ j = 4 ∨ j = 5 ∨ j = 6 ∨ j = 7 ∨ j = 8 by omega) with rfl | rfl | rfl | rfl | rfl | rfl | rfl | rfl | rfl <;> rfl) (Nat.le_of_ble_eq_true rfl) (Nat.le_of_ble_eq_true rfl) d_Fd_init_5 (fun q5_4 H hP hD hS => ?_)
  have hP : va_P G.1 vwCl (([(h0, .inr (8, [.null, .null, .null, .null, .null, .null]))]) ++ [(q5_4, .inr (6, [.null, .null, .null, .int 0, .int 0, .int 0, .int 0, .int 0, .int 0]))]) H := hP
  have hD : va_D A (([(h0, .inr (8, [.null, .null, .null, .null, .null, .null]))]) ++ [(q5_4, .inr (6, [.null, .null, .null, .int 0, .int 0, .int 0, .int 0, .int 0, .int 0]))]) := hD
  refine lv_dup hx hb d_Fd_init_8 rfl ?_
  refine kcIN (cc := c_Fd_init) (own := "FloodDiary") (index := 11) (wr := [(h0, .inr (8, [.null, .null, .null, .null, .null, .null]))]) hx hb hml hown hts hK hN hA hP hD hS (t_St_init l G q5_4) ⟨k_24, k_2, k_25, by decide +kernel, by decide +kernel, by decide +kernel⟩ nsM_0 ⟨Nat.le_of_ble_eq_true rfl, Nat.le_of_ble_eq_true rfl⟩ (List.perm_append_comm) rfl (Nat.le_of_ble_eq_true rfl) hl.1 d_Fd_init_9 ⟨Nat.le_of_ble_eq_true rfl, Nat.le_of_ble_eq_true rfl⟩ (fun u9_6 H locs hu hP2 hD2 hS => ?_)
  have hu : u9_6 0 = q5_4 := hu
  subst hu
  have hP : va_P G.1 vwCl (([(h0, .inr (8, [.null, .null, .null, .null, .null, .null]))]) ++ W_St G u9_6 St0) H := hP2
  have hD : va_D A (([(h0, .inr (8, [.null, .null, .null, .null, .null, .null]))]) ++ W_St G u9_6 St0) := hD2
  refine va_putF (D := G.1) (ci := 8) (v := .ref (u9_6 0)) (C := R_Fd) (T := T_Fd) (N := 6) hx hb hts in_Fd ty_Fd ty_Fd_ok nm_Fd hown hK hP hD hS 0 rfl rfl 0 (by decide) (hts _ k_218) (fun _ h9 => h9) rfl hin rfl (ty_Fd_ok 0 (by decide)) rfl rfl (Nat.le_of_ble_eq_true rfl) d_Fd_init_12 (fun H locs hP hD hS => ?_)
  have hP : va_P G.1 vwCl (([(h0, .inr (8, [.ref (u9_6 0), .null, .null, .null, .null, .null]))]) ++ W_St G u9_6 St0) H := hP
  have hD : va_D A (([(h0, .inr (8, [.ref (u9_6 0), .null, .null, .null, .null, .null]))]) ++ W_St G u9_6 St0) := hD
  refine lv_aload_n hx hb d_Fd_init_15 rfl (lv_at hl 0 rfl) ?_
  refine va_new (ci := 6) (fs := [.null, .null, .null, .int 0, .int 0, .int 0, .int 0, .int 0, .int 0]) (C := R_St) (T := T_St) (N := 9) hx hb hts in_St ty_St ty_St_ok hown (hts _ k_21) (hts _ k_22) (hts _ k_2) hK hP hD hS hA rfl (fun j hj => by rcases (show j = 0 ∨ j = 1 ∨ j = 2 ∨ j = 3 ∨ j = 4 ∨ j = 5 ∨ j = 6 ∨ j = 7 ∨ j = 8 by omega) with rfl | rfl | rfl | rfl | rfl | rfl | rfl | rfl | rfl <;> rfl) (Nat.le_of_ble_eq_true rfl) (Nat.le_of_ble_eq_true rfl) d_Fd_init_16 (fun q16_9 H hP hD hS => ?_)
  have hP : va_P G.1 vwCl ((([(h0, .inr (8, [.ref (u9_6 0), .null, .null, .null, .null, .null]))]) ++ W_St G u9_6 St0) ++ [(q16_9, .inr (6, [.null, .null, .null, .int 0, .int 0, .int 0, .int 0, .int 0, .int 0]))]) H := hP
  have hD : va_D A ((([(h0, .inr (8, [.ref (u9_6 0), .null, .null, .null, .null, .null]))]) ++ W_St G u9_6 St0) ++ [(q16_9, .inr (6, [.null, .null, .null, .int 0, .int 0, .int 0, .int 0, .int 0, .int 0]))]) := hD
  refine lv_dup hx hb d_Fd_init_19 rfl ?_
  refine kcIN (cc := c_Fd_init) (own := "FloodDiary") (index := 11) (wr := ([(h0, .inr (8, [.ref (u9_6 0), .null, .null, .null, .null, .null]))]) ++ W_St G u9_6 St0) hx hb hml hown hts hK hN hA hP hD hS (t_St_init l G q16_9) ⟨k_24, k_2, k_25, by decide +kernel, by decide +kernel, by decide +kernel⟩ nsM_0 ⟨Nat.le_of_ble_eq_true rfl, Nat.le_of_ble_eq_true rfl⟩ (List.perm_append_comm) rfl (Nat.le_of_ble_eq_true rfl) hl.1 d_Fd_init_20 ⟨Nat.le_of_ble_eq_true rfl, Nat.le_of_ble_eq_true rfl⟩ (fun u20_11 H locs hu hP2 hD2 hS => ?_)
  have hu : u20_11 0 = q16_9 := hu
  subst hu
  have hP : va_P G.1 vwCl ((([(h0, .inr (8, [.ref (u9_6 0), .null, .null, .null, .null, .null]))]) ++ W_St G u9_6 St0) ++ W_St G u20_11 St0) H := hP2
  have hD : va_D A ((([(h0, .inr (8, [.ref (u9_6 0), .null, .null, .null, .null, .null]))]) ++ W_St G u9_6 St0) ++ W_St G u20_11 St0) := hD2
  refine va_putF (D := G.1) (ci := 8) (v := .ref (u20_11 0)) (C := R_Fd) (T := T_Fd) (N := 6) hx hb hts in_Fd ty_Fd ty_Fd_ok nm_Fd hown hK hP hD hS 0 rfl rfl 1 (by decide) (hts _ k_219) (fun _ h9 => h9) rfl hin rfl (ty_Fd_ok 1 (by decide)) rfl rfl (Nat.le_of_ble_eq_true rfl) d_Fd_init_23 (fun H locs hP hD hS => ?_)
  have hP : va_P G.1 vwCl ((([(h0, .inr (8, [.ref (u9_6 0), .ref (u20_11 0), .null, .null, .null, .null]))]) ++ W_St G u9_6 St0) ++ W_St G u20_11 St0) H := hP
  have hD : va_D A ((([(h0, .inr (8, [.ref (u9_6 0), .ref (u20_11 0), .null, .null, .null, .null]))]) ++ W_St G u9_6 St0) ++ W_St G u20_11 St0) := hD
  refine lv_aload_n hx hb d_Fd_init_26 rfl (lv_at hl 0 rfl) ?_
  refine va_new (ci := 1) (fs := [.null, .int 0, .int 0]) (C := R_Hi) (T := T_Hi) (N := 3) hx hb hts in_Hi ty_Hi ty_Hi_ok hown (hts _ k_146) (hts _ k_147) (hts _ k_6) hK hP hD hS hA rfl (fun j hj => by rcases (show j = 0 ∨ j = 1 ∨ j = 2 by omega) with rfl | rfl | rfl <;> rfl) (Nat.le_of_ble_eq_true rfl) (Nat.le_of_ble_eq_true rfl) d_Fd_init_27 (fun q27_14 H hP hD hS => ?_)
  have hP : va_P G.1 vwCl (((([(h0, .inr (8, [.ref (u9_6 0), .ref (u20_11 0), .null, .null, .null, .null]))]) ++ W_St G u9_6 St0) ++ W_St G u20_11 St0) ++ [(q27_14, .inr (1, [.null, .int 0, .int 0]))]) H := hP
  have hD : va_D A (((([(h0, .inr (8, [.ref (u9_6 0), .ref (u20_11 0), .null, .null, .null, .null]))]) ++ W_St G u9_6 St0) ++ W_St G u20_11 St0) ++ [(q27_14, .inr (1, [.null, .int 0, .int 0]))]) := hD
  refine lv_dup hx hb d_Fd_init_30 rfl ?_
  refine kcI (cc := c_Fd_init) (own := "FloodDiary") (index := 21) (wr := (([(h0, .inr (8, [.ref (u9_6 0), .ref (u20_11 0), .null, .null, .null, .null]))]) ++ W_St G u9_6 St0) ++ W_St G u20_11 St0) hx hb hml hown hts hK hN hA hP hD hS (t_Hi_init l G q27_14) ⟨k_149, k_6, k_150, by decide +kernel, by decide +kernel, by decide +kernel⟩ k_148 ⟨Nat.le_of_ble_eq_true rfl, Nat.le_of_ble_eq_true rfl⟩ (List.perm_append_comm) rfl (Nat.le_of_ble_eq_true rfl) hl.1 d_Fd_init_31 ⟨Nat.le_of_ble_eq_true rfl, Nat.le_of_ble_eq_true rfl⟩ (fun u31_16 H locs hu hP2 hD2 hS => ?_)
  have hu : u31_16 0 = q27_14 := hu
  subst hu
  have hP : va_P G.1 vwCl (((([(h0, .inr (8, [.ref (u9_6 0), .ref (u20_11 0), .null, .null, .null, .null]))]) ++ W_St G u9_6 St0) ++ W_St G u20_11 St0) ++ W_Hi G u31_16 Hi0) H := hP2
  have hD : va_D A (((([(h0, .inr (8, [.ref (u9_6 0), .ref (u20_11 0), .null, .null, .null, .null]))]) ++ W_St G u9_6 St0) ++ W_St G u20_11 St0) ++ W_Hi G u31_16 Hi0) := hD2
  refine va_putF (D := G.1) (ci := 8) (v := .ref (u31_16 0)) (C := R_Fd) (T := T_Fd) (N := 6) hx hb hts in_Fd ty_Fd ty_Fd_ok nm_Fd hown hK hP hD hS 0 rfl rfl 2 (by decide) (hts _ k_220) (fun _ h9 => h9) rfl hin rfl (ty_Fd_ok 2 (by decide)) rfl rfl (Nat.le_of_ble_eq_true rfl) d_Fd_init_34 (fun H locs hP hD hS => ?_)
  have hP : va_P G.1 vwCl (((([(h0, .inr (8, [.ref (u9_6 0), .ref (u20_11 0), .ref (u31_16 0), .null, .null, .null]))]) ++ W_St G u9_6 St0) ++ W_St G u20_11 St0) ++ W_Hi G u31_16 Hi0) H := hP
  have hD : va_D A (((([(h0, .inr (8, [.ref (u9_6 0), .ref (u20_11 0), .ref (u31_16 0), .null, .null, .null]))]) ++ W_St G u9_6 St0) ++ W_St G u20_11 St0) ++ W_Hi G u31_16 Hi0) := hD
  refine lv_aload_n hx hb d_Fd_init_37 rfl (lv_at hl 0 rfl) ?_
  refine va_new (ci := 5) (fs := [.null]) (C := R_Sl) (T := T_Sl) (N := 1) hx hb hts in_Sl ty_Sl ty_Sl_ok hown (hts _ k_165) (hts _ k_166) (hts _ k_7) hK hP hD hS hA rfl (fun j hj => by rcases (show j = 0 by omega) with rfl <;> rfl) (Nat.le_of_ble_eq_true rfl) (Nat.le_of_ble_eq_true rfl) d_Fd_init_38 (fun q38_19 H hP hD hS => ?_)
  have hP : va_P G.1 vwCl ((((([(h0, .inr (8, [.ref (u9_6 0), .ref (u20_11 0), .ref (u31_16 0), .null, .null, .null]))]) ++ W_St G u9_6 St0) ++ W_St G u20_11 St0) ++ W_Hi G u31_16 Hi0) ++ [(q38_19, .inr (5, [.null]))]) H := hP
  have hD : va_D A ((((([(h0, .inr (8, [.ref (u9_6 0), .ref (u20_11 0), .ref (u31_16 0), .null, .null, .null]))]) ++ W_St G u9_6 St0) ++ W_St G u20_11 St0) ++ W_Hi G u31_16 Hi0) ++ [(q38_19, .inr (5, [.null]))]) := hD
  refine lv_dup hx hb d_Fd_init_41 rfl ?_
  refine kcIN (cc := c_Fd_init) (own := "FloodDiary") (index := 28) (wr := ((([(h0, .inr (8, [.ref (u9_6 0), .ref (u20_11 0), .ref (u31_16 0), .null, .null, .null]))]) ++ W_St G u9_6 St0) ++ W_St G u20_11 St0) ++ W_Hi G u31_16 Hi0) hx hb hml hown hts hK hN hA hP hD hS (t_Sl_init l G q38_19) ⟨k_168, k_7, k_169, by decide +kernel, by decide +kernel, by decide +kernel⟩ nsM_5 ⟨Nat.le_of_ble_eq_true rfl, Nat.le_of_ble_eq_true rfl⟩ (List.perm_append_comm) rfl (Nat.le_of_ble_eq_true rfl) hl.1 d_Fd_init_42 ⟨Nat.le_of_ble_eq_true rfl, Nat.le_of_ble_eq_true rfl⟩ (fun u42_21 H locs hu hP2 hD2 hS => ?_)
  have hu : u42_21 0 = q38_19 := hu
  subst hu
  have hP : va_P G.1 vwCl ((((([(h0, .inr (8, [.ref (u9_6 0), .ref (u20_11 0), .ref (u31_16 0), .null, .null, .null]))]) ++ W_St G u9_6 St0) ++ W_St G u20_11 St0) ++ W_Hi G u31_16 Hi0) ++ W_S0 G u42_21 S00) H := hP2
  have hD : va_D A ((((([(h0, .inr (8, [.ref (u9_6 0), .ref (u20_11 0), .ref (u31_16 0), .null, .null, .null]))]) ++ W_St G u9_6 St0) ++ W_St G u20_11 St0) ++ W_Hi G u31_16 Hi0) ++ W_S0 G u42_21 S00) := hD2
  refine va_putF (D := G.1) (ci := 8) (v := .ref (u42_21 0)) (C := R_Fd) (T := T_Fd) (N := 6) hx hb hts in_Fd ty_Fd ty_Fd_ok nm_Fd hown hK hP hD hS 0 rfl rfl 3 (by decide) (hts _ k_221) (fun _ h9 => h9) rfl hin rfl (ty_Fd_ok 3 (by decide)) rfl rfl (Nat.le_of_ble_eq_true rfl) d_Fd_init_45 (fun H locs hP hD hS => ?_)
  have hP : va_P G.1 vwCl ((((([(h0, .inr (8, [.ref (u9_6 0), .ref (u20_11 0), .ref (u31_16 0), .ref (u42_21 0), .null, .null]))]) ++ W_St G u9_6 St0) ++ W_St G u20_11 St0) ++ W_Hi G u31_16 Hi0) ++ W_S0 G u42_21 S00) H := hP
  have hD : va_D A ((((([(h0, .inr (8, [.ref (u9_6 0), .ref (u20_11 0), .ref (u31_16 0), .ref (u42_21 0), .null, .null]))]) ++ W_St G u9_6 St0) ++ W_St G u20_11 St0) ++ W_Hi G u31_16 Hi0) ++ W_S0 G u42_21 S00) := hD
  refine lv_aload_n hx hb d_Fd_init_48 rfl (lv_at hl 0 rfl) ?_
  refine va_new (ci := 3) (fs := [.null, .int 0]) (C := R_Pd) (T := T_Pd) (N := 2) hx hb hts in_Pd ty_Pd ty_Pd_ok hown (hts _ k_176) (hts _ k_177) (hts _ k_8) hK hP hD hS hA rfl (fun j hj => by rcases (show j = 0 ∨ j = 1 by omega) with rfl | rfl <;> rfl) (Nat.le_of_ble_eq_true rfl) (Nat.le_of_ble_eq_true rfl) d_Fd_init_49 (fun q49_24 H hP hD hS => ?_)
  have hP : va_P G.1 vwCl (((((([(h0, .inr (8, [.ref (u9_6 0), .ref (u20_11 0), .ref (u31_16 0), .ref (u42_21 0), .null, .null]))]) ++ W_St G u9_6 St0) ++ W_St G u20_11 St0) ++ W_Hi G u31_16 Hi0) ++ W_S0 G u42_21 S00) ++ [(q49_24, .inr (3, [.null, .int 0]))]) H := hP
  have hD : va_D A (((((([(h0, .inr (8, [.ref (u9_6 0), .ref (u20_11 0), .ref (u31_16 0), .ref (u42_21 0), .null, .null]))]) ++ W_St G u9_6 St0) ++ W_St G u20_11 St0) ++ W_Hi G u31_16 Hi0) ++ W_S0 G u42_21 S00) ++ [(q49_24, .inr (3, [.null, .int 0]))]) := hD
  refine lv_dup hx hb d_Fd_init_52 rfl ?_
  refine kcIN (cc := c_Fd_init) (own := "FloodDiary") (index := 35) (wr := (((([(h0, .inr (8, [.ref (u9_6 0), .ref (u20_11 0), .ref (u31_16 0), .ref (u42_21 0), .null, .null]))]) ++ W_St G u9_6 St0) ++ W_St G u20_11 St0) ++ W_Hi G u31_16 Hi0) ++ W_S0 G u42_21 S00) hx hb hml hown hts hK hN hA hP hD hS (t_Pd_init l G q49_24) ⟨k_179, k_8, k_180, by decide +kernel, by decide +kernel, by decide +kernel⟩ nsM_6 ⟨Nat.le_of_ble_eq_true rfl, Nat.le_of_ble_eq_true rfl⟩ (List.perm_append_comm) rfl (Nat.le_of_ble_eq_true rfl) hl.1 d_Fd_init_53 ⟨Nat.le_of_ble_eq_true rfl, Nat.le_of_ble_eq_true rfl⟩ (fun u53_26 H locs hu hP2 hD2 hS => ?_)
  have hu : u53_26 0 = q49_24 := hu
  subst hu
  have hP : va_P G.1 vwCl (((((([(h0, .inr (8, [.ref (u9_6 0), .ref (u20_11 0), .ref (u31_16 0), .ref (u42_21 0), .null, .null]))]) ++ W_St G u9_6 St0) ++ W_St G u20_11 St0) ++ W_Hi G u31_16 Hi0) ++ W_S0 G u42_21 S00) ++ W_Pd G u53_26 Pd0) H := hP2
  have hD : va_D A (((((([(h0, .inr (8, [.ref (u9_6 0), .ref (u20_11 0), .ref (u31_16 0), .ref (u42_21 0), .null, .null]))]) ++ W_St G u9_6 St0) ++ W_St G u20_11 St0) ++ W_Hi G u31_16 Hi0) ++ W_S0 G u42_21 S00) ++ W_Pd G u53_26 Pd0) := hD2
  refine va_putF (D := G.1) (ci := 8) (v := .ref (u53_26 0)) (C := R_Fd) (T := T_Fd) (N := 6) hx hb hts in_Fd ty_Fd ty_Fd_ok nm_Fd hown hK hP hD hS 0 rfl rfl 4 (by decide) (hts _ k_222) (fun _ h9 => h9) rfl hin rfl (ty_Fd_ok 4 (by decide)) rfl rfl (Nat.le_of_ble_eq_true rfl) d_Fd_init_56 (fun H locs hP hD hS => ?_)
  have hP : va_P G.1 vwCl (((((([(h0, .inr (8, [.ref (u9_6 0), .ref (u20_11 0), .ref (u31_16 0), .ref (u42_21 0), .ref (u53_26 0), .null]))]) ++ W_St G u9_6 St0) ++ W_St G u20_11 St0) ++ W_Hi G u31_16 Hi0) ++ W_S0 G u42_21 S00) ++ W_Pd G u53_26 Pd0) H := hP
  have hD : va_D A (((((([(h0, .inr (8, [.ref (u9_6 0), .ref (u20_11 0), .ref (u31_16 0), .ref (u42_21 0), .ref (u53_26 0), .null]))]) ++ W_St G u9_6 St0) ++ W_St G u20_11 St0) ++ W_Hi G u31_16 Hi0) ++ W_S0 G u42_21 S00) ++ W_Pd G u53_26 Pd0) := hD
  refine lv_aload_n hx hb d_Fd_init_59 rfl (lv_at hl 0 rfl) ?_
  refine va_new (ci := 2) (fs := [.null, .null, .null, .null, .int 0, .int 0, .int 0]) (C := R_Or) (T := T_Or) (N := 7) hx hb hts in_Or ty_Or ty_Or_ok hown (hts _ k_190) (hts _ k_191) (hts _ k_9) hK hP hD hS hA rfl (fun j hj => by rcases (show j = 0 ∨ j = 1 ∨ j = 2 ∨ j = 3 ∨ j = 4 ∨ j = 5 ∨ j = 6 by omega) with rfl | rfl | rfl | rfl | rfl | rfl | rfl <;> rfl) (Nat.le_of_ble_eq_true rfl) (Nat.le_of_ble_eq_true rfl) d_Fd_init_60 (fun q60_29 H hP hD hS => ?_)
  have hP : va_P G.1 vwCl ((((((([(h0, .inr (8, [.ref (u9_6 0), .ref (u20_11 0), .ref (u31_16 0), .ref (u42_21 0), .ref (u53_26 0), .null]))]) ++ W_St G u9_6 St0) ++ W_St G u20_11 St0) ++ W_Hi G u31_16 Hi0) ++ W_S0 G u42_21 S00) ++ W_Pd G u53_26 Pd0) ++ [(q60_29, .inr (2, [.null, .null, .null, .null, .int 0, .int 0, .int 0]))]) H := hP
  have hD : va_D A ((((((([(h0, .inr (8, [.ref (u9_6 0), .ref (u20_11 0), .ref (u31_16 0), .ref (u42_21 0), .ref (u53_26 0), .null]))]) ++ W_St G u9_6 St0) ++ W_St G u20_11 St0) ++ W_Hi G u31_16 Hi0) ++ W_S0 G u42_21 S00) ++ W_Pd G u53_26 Pd0) ++ [(q60_29, .inr (2, [.null, .null, .null, .null, .int 0, .int 0, .int 0]))]) := hD
  refine lv_dup hx hb d_Fd_init_63 rfl ?_
  refine kcIN (cc := c_Fd_init) (own := "FloodDiary") (index := 42) (wr := ((((([(h0, .inr (8, [.ref (u9_6 0), .ref (u20_11 0), .ref (u31_16 0), .ref (u42_21 0), .ref (u53_26 0), .null]))]) ++ W_St G u9_6 St0) ++ W_St G u20_11 St0) ++ W_Hi G u31_16 Hi0) ++ W_S0 G u42_21 S00) ++ W_Pd G u53_26 Pd0) hx hb hml hown hts hK hN hA hP hD hS (t_Or_init l G q60_29) ⟨k_193, k_9, k_194, by decide +kernel, by decide +kernel, by decide +kernel⟩ nsM_7 ⟨Nat.le_of_ble_eq_true rfl, Nat.le_of_ble_eq_true rfl⟩ (List.perm_append_comm) rfl (Nat.le_of_ble_eq_true rfl) hl.1 d_Fd_init_64 ⟨Nat.le_of_ble_eq_true rfl, Nat.le_of_ble_eq_true rfl⟩ (fun u64_31 H locs hu hP2 hD2 hS => ?_)
  have hu : u64_31 0 = q60_29 := hu
  subst hu
  have hP : va_P G.1 vwCl ((((((([(h0, .inr (8, [.ref (u9_6 0), .ref (u20_11 0), .ref (u31_16 0), .ref (u42_21 0), .ref (u53_26 0), .null]))]) ++ W_St G u9_6 St0) ++ W_St G u20_11 St0) ++ W_Hi G u31_16 Hi0) ++ W_S0 G u42_21 S00) ++ W_Pd G u53_26 Pd0) ++ W_Or G u64_31 Or0) H := hP2
  have hD : va_D A ((((((([(h0, .inr (8, [.ref (u9_6 0), .ref (u20_11 0), .ref (u31_16 0), .ref (u42_21 0), .ref (u53_26 0), .null]))]) ++ W_St G u9_6 St0) ++ W_St G u20_11 St0) ++ W_Hi G u31_16 Hi0) ++ W_S0 G u42_21 S00) ++ W_Pd G u53_26 Pd0) ++ W_Or G u64_31 Or0) := hD2
  refine va_putF (D := G.1) (ci := 8) (v := .ref (u64_31 0)) (C := R_Fd) (T := T_Fd) (N := 6) hx hb hts in_Fd ty_Fd ty_Fd_ok nm_Fd hown hK hP hD hS 0 rfl rfl 5 (by decide) (hts _ k_223) (fun _ h9 => h9) rfl hin rfl (ty_Fd_ok 5 (by decide)) rfl rfl (Nat.le_of_ble_eq_true rfl) d_Fd_init_67 (fun H locs hP hD hS => ?_)
  have hP : va_P G.1 vwCl ((((((([(h0, .inr (8, [.ref (u9_6 0), .ref (u20_11 0), .ref (u31_16 0), .ref (u42_21 0), .ref (u53_26 0), .ref (u64_31 0)]))]) ++ W_St G u9_6 St0) ++ W_St G u20_11 St0) ++ W_Hi G u31_16 Hi0) ++ W_S0 G u42_21 S00) ++ W_Pd G u53_26 Pd0) ++ W_Or G u64_31 Or0) H := hP
  have hD : va_D A ((((((([(h0, .inr (8, [.ref (u9_6 0), .ref (u20_11 0), .ref (u31_16 0), .ref (u42_21 0), .ref (u53_26 0), .ref (u64_31 0)]))]) ++ W_St G u9_6 St0) ++ W_St G u20_11 St0) ++ W_Hi G u31_16 Hi0) ++ W_S0 G u42_21 S00) ++ W_Pd G u53_26 Pd0) ++ W_Or G u64_31 Or0) := hD
  have hP := vP_perm (pm_fd _ _ _ _ _ _ _) hP
  have hD := vD_perm (pm_fd _ _ _ _ _ _ _) hD
  have hP : va_P G.1 vwCl (O_Fd G (fun j => if j = 0 then h0 else if j < 21 then u9_6 (j - 1) else if j < 41 then u20_11 (j - 21) else if j < 43 then u53_26 (j - 41) else if j < 48 then u64_31 (j - 43) else u31_16 (j - 48)) (u42_21 0) ++ (W_St G u9_6 St0 ++ (W_St G u20_11 St0 ++ (W_Pd G u53_26 Pd0 ++ (W_Or G u64_31 Or0 ++ (W_Hi G u31_16 Hi0 ++ (W_S0 G u42_21 S00 ++ []))))))) H := hP
  have hD : va_D A (O_Fd G (fun j => if j = 0 then h0 else if j < 21 then u9_6 (j - 1) else if j < 41 then u20_11 (j - 21) else if j < 43 then u53_26 (j - 41) else if j < 48 then u64_31 (j - 43) else u31_16 (j - 48)) (u42_21 0) ++ (W_St G u9_6 St0 ++ (W_St G u20_11 St0 ++ (W_Pd G u53_26 Pd0 ++ (W_Or G u64_31 Or0 ++ (W_Hi G u31_16 Hi0 ++ (W_S0 G u42_21 S00 ++ []))))))) := hD
  have eF : W_Fd G (fun j => if j = 0 then h0 else if j < 21 then u9_6 (j - 1) else if j < 41 then u20_11 (j - 21) else if j < 43 then u53_26 (j - 41) else if j < 48 then u64_31 (j - 43) else u31_16 (j - 48)) (u42_21 0) (W_S0 G u42_21 S00) Fd0 = O_Fd G (fun j => if j = 0 then h0 else if j < 21 then u9_6 (j - 1) else if j < 41 then u20_11 (j - 21) else if j < 43 then u53_26 (j - 41) else if j < 48 then u64_31 (j - 43) else u31_16 (j - 48)) (u42_21 0) ++ (W_St G u9_6 St0 ++ (W_St G u20_11 St0 ++ (W_Pd G u53_26 Pd0 ++ (W_Or G u64_31 Or0 ++ (W_Hi G u31_16 Hi0 ++ (W_S0 G u42_21 S00 ++ [])))))) := by
    show O_Fd G (fun j => if j = 0 then h0 else if j < 21 then u9_6 (j - 1) else if j < 41 then u20_11 (j - 21) else if j < 43 then u53_26 (j - 41) else if j < 48 then u64_31 (j - 43) else u31_16 (j - 48)) (u42_21 0) ++ (W_St G (sh (fun j => if j = 0 then h0 else if j < 21 then u9_6 (j - 1) else if j < 41 then u20_11 (j - 21) else if j < 43 then u53_26 (j - 41) else if j < 48 then u64_31 (j - 43) else u31_16 (j - 48)) 1) St0 ++ (W_St G (sh (fun j => if j = 0 then h0 else if j < 21 then u9_6 (j - 1) else if j < 41 then u20_11 (j - 21) else if j < 43 then u53_26 (j - 41) else if j < 48 then u64_31 (j - 43) else u31_16 (j - 48)) 21) St0 ++ (W_Pd G (sh (fun j => if j = 0 then h0 else if j < 21 then u9_6 (j - 1) else if j < 41 then u20_11 (j - 21) else if j < 43 then u53_26 (j - 41) else if j < 48 then u64_31 (j - 43) else u31_16 (j - 48)) 41) Pd0 ++ (W_Or G (sh (fun j => if j = 0 then h0 else if j < 21 then u9_6 (j - 1) else if j < 41 then u20_11 (j - 21) else if j < 43 then u53_26 (j - 41) else if j < 48 then u64_31 (j - 43) else u31_16 (j - 48)) 43) Or0 ++ (W_Hi G (sh (fun j => if j = 0 then h0 else if j < 21 then u9_6 (j - 1) else if j < 41 then u20_11 (j - 21) else if j < 43 then u53_26 (j - 41) else if j < 48 then u64_31 (j - 43) else u31_16 (j - 48)) 48) Hi0 ++ (W_S0 G u42_21 S00 ++ [])))))) = _
    rw [W_St_cg G St0 (sh (fun j => if j = 0 then h0 else if j < 21 then u9_6 (j - 1) else if j < 41 then u20_11 (j - 21) else if j < 43 then u53_26 (j - 41) else if j < 48 then u64_31 (j - 43) else u31_16 (j - 48)) 1) u9_6 (fun j hj => by show (if 1 + j = 0 then _ else _) = _; rw [if_neg (by omega), if_pos (by omega)]; congr 1; omega), W_St_cg G St0 (sh (fun j => if j = 0 then h0 else if j < 21 then u9_6 (j - 1) else if j < 41 then u20_11 (j - 21) else if j < 43 then u53_26 (j - 41) else if j < 48 then u64_31 (j - 43) else u31_16 (j - 48)) 21) u20_11 (fun j hj => by show (if 21 + j = 0 then _ else _) = _; rw [if_neg (by omega), if_neg (by omega), if_pos (by omega)]; congr 1; omega), W_Pd_cg G Pd0 (sh (fun j => if j = 0 then h0 else if j < 21 then u9_6 (j - 1) else if j < 41 then u20_11 (j - 21) else if j < 43 then u53_26 (j - 41) else if j < 48 then u64_31 (j - 43) else u31_16 (j - 48)) 41) u53_26 (fun j hj => by show (if 41 + j = 0 then _ else _) = _; rw [if_neg (by omega), if_neg (by omega), if_neg (by omega), if_pos (by omega)]; congr 1; omega), W_Or_cg G Or0 (sh (fun j => if j = 0 then h0 else if j < 21 then u9_6 (j - 1) else if j < 41 then u20_11 (j - 21) else if j < 43 then u53_26 (j - 41) else if j < 48 then u64_31 (j - 43) else u31_16 (j - 48)) 43) u64_31 (fun j hj => by show (if 43 + j = 0 then _ else _) = _; rw [if_neg (by omega), if_neg (by omega), if_neg (by omega), if_neg (by omega), if_pos (by omega)]; congr 1; omega)]
    have eh : sh (fun j => if j = 0 then h0 else if j < 21 then u9_6 (j - 1) else if j < 41 then u20_11 (j - 21) else if j < 43 then u53_26 (j - 41) else if j < 48 then u64_31 (j - 43) else u31_16 (j - 48)) 48 = u31_16 := by funext j; show (if 48 + j = 0 then _ else _) = _; rw [if_neg (by omega), if_neg (by omega), if_neg (by omega), if_neg (by omega), if_neg (by omega)]; congr 1; omega
    rw [eh]
  rw [← eF] at hP hD
  refine W.widen (k := 191) (n := 20654) (Nat.le_of_ble_eq_true rfl) (Nat.le_of_ble_eq_true rfl) ?_
  have hP : va_P G.1 vwCl (W_Fd G (fun j => if j = 0 then h0 else if j < 21 then u9_6 (j - 1) else if j < 41 then u20_11 (j - 21) else if j < 43 then u53_26 (j - 41) else if j < 48 then u64_31 (j - 43) else u31_16 (j - 48)) (u42_21 0) (W_S0 G u42_21 S00) Fd0) H := hP
  have hD : va_D A (W_Fd G (fun j => if j = 0 then h0 else if j < 21 then u9_6 (j - 1) else if j < 41 then u20_11 (j - 21) else if j < 43 then u53_26 (j - 41) else if j < 48 then u64_31 (j - 43) else u31_16 (j - 48)) (u42_21 0) (W_S0 G u42_21 S00) Fd0) := hD
  exact kC (u := ((fun j => if j = 0 then h0 else if j < 21 then u9_6 (j - 1) else if j < 41 then u20_11 (j - 21) else if j < 43 then u53_26 (j - 41) else if j < 48 then u64_31 (j - 43) else u31_16 (j - 48)), u42_21)) hx hb hr hlk hP hD hS rfl d_Fd_init_70
