set_option maxHeartbeats 4000000 in
set_option maxRecDepth 100000 in
theorem t_Pd_length (l : Launch) (G : GG) (a : Nat → Nat) (v : V_Pd) (q : Int32) (hf : f_Pd_length v = some q) : MI l G y_Pd_length c_Pd_length 1 (some .int) (rmk 0 0) (W_Pd G a v) [.ref (a 0)] (W_Pd G a v) (q) := by
  refine ofI "FloodDiary$Pad" (by decide +kernel) rfl (Nat.le_of_ble_eq_true rfl) (fun p e s m args below meth c A ls hx hb hr hml hown hts hlk hK hN hA hP hD hS hl => ?_)
  have hl : lv_has ls 1 [(0, .ref (a 0))] := hl
  unfold f_Pd_length at hf
  refine lv_aload_n hx hb d_Pd_length_0 rfl (lv_at hl 0 rfl) ?_
  refine va_get (D := G.1) (ci := 3) (v := .int v.2) (C := R_Pd) (T := T_Pd) (N := 2) hx hb hts in_Pd hown hK hP 0 rfl rfl 1 (by decide) (hts _ k_183) (fun _ h9 => h9) rfl d_Pd_length_1 ?_
  cases hf
  exact kI hx hb hr hlk hP hD hS d_Pd_length_4
set_option maxHeartbeats 4000000 in
set_option maxRecDepth 100000 in
theorem t_Pd_hasRoomFor (l : Launch) (G : GG) (a : Nat → Nat) (l1 : Int32) (v : V_Pd) (q : Int32) (hf : f_Pd_hasRoomFor l1 v = some q) : MI l G y_Pd_hasRoomFor c_Pd_hasRoomFor 2 (some .boolean) (rmk 0 0) (W_Pd G a v) [.ref (a 0), .int l1] (W_Pd G a v) (q) := by
  refine ofI "FloodDiary$Pad" (by decide +kernel) rfl (Nat.le_of_ble_eq_true rfl) (fun p e s m args below meth c A ls hx hb hr hml hown hts hlk hK hN hA hP hD hS hl => ?_)
  have hl : lv_has ls 2 [(0, .ref (a 0)), (1, .int l1)] := hl
  unfold f_Pd_hasRoomFor at hf
  refine lv_aload_n hx hb d_Pd_hasRoomFor_0 rfl (lv_at hl 0 rfl) ?_
  refine va_get (D := G.1) (ci := 3) (v := .int v.2) (C := R_Pd) (T := T_Pd) (N := 2) hx hb hts in_Pd hown hK hP 0 rfl rfl 1 (by decide) (hts _ k_183) (fun _ h9 => h9) rfl d_Pd_hasRoomFor_1 ?_
  refine lv_iload_n hx hb d_Pd_hasRoomFor_4 rfl (lv_at hl 1 rfl) ?_
  refine lv_iadd hx hb d_Pd_hasRoomFor_5 ?_
  refine lv_bipush (v := (80 : Int32)) hx hb d_Pd_hasRoomFor_6 (by decide) ?_
  refine lv_icmp_gt (tgt := 15) hx hb d_Pd_hasRoomFor_8 (by decide) (fun c_8 => ?_) (fun c_8 => ?_)
  · replace hf := ob_et c_8 hf
    refine lv_iconst (v := (0 : Int32)) hx hb d_Pd_hasRoomFor_15 (by decide) ?_
    cases hf
    exact kZ hx hb hr hlk hP hD hS (Or.inl rfl) d_Pd_hasRoomFor_16
  · replace hf := ob_ef c_8 hf
    refine lv_iconst (v := (1 : Int32)) hx hb d_Pd_hasRoomFor_11 (by decide) ?_
    refine lv_goto (tgt := 16) hx hb d_Pd_hasRoomFor_12 (by decide) ?_
    cases hf
    exact kZ hx hb hr hlk hP hD hS (Or.inr rfl) d_Pd_hasRoomFor_16
set_option maxHeartbeats 4000000 in
set_option maxRecDepth 100000 in
theorem t_Pd_append (l : Launch) (G : GG) (a : Nat → Nat) (l1 : Int64) (l3 : Int32) (v : V_Pd) (q : V_Pd) (hf : f_Pd_append l1 l3 v = some q) : MV l G y_Pd_append c_Pd_append 5 (rmk 0 0) (W_Pd G a v) [.ref (a 0), .long l1, .int l3] (W_Pd G a q) := by
  refine ofV "FloodDiary$Pad" (by decide +kernel) rfl (Nat.le_of_ble_eq_true rfl) (fun p e s m args below meth c A ls hx hb hr hml hown hts hlk hK hN hA hP hD hS hl => ?_)
  have hl : lv_has ls 5 [(0, .ref (a 0)), (1, .long l1), (3, .int l3)] := hl
  have J_5 : ∀ (n_5 : Nat) (l1 : Int64) (l4 : Int32) (v : V_Pd) (H : Heap) (locs : List Loc) (ls : Array Slot), va_P G.1 vwCl (W_Pd G a v) H → va_D A (W_Pd G a v) → va_S A s.heap H locs → lv_has ls 5 [(0, .ref (a 0)), (1, .long l1), (4, .int l4)] → f_Pd_append_5 n_5 l1 l4 v = some q → W p l e (rmk 0 0) s m args below meth c H locs 0 0 (MQ below (qV G A (W_Pd G a q)) args s 0 0 A) (F0 m 5 ls []) := by
    intro n_5
    induction n_5 with
    | zero => intro l1 l4 v H locs ls hP hD hS hl hf; exact absurd hf (by unfold f_Pd_append_5; exact fun z => by cases z)
    | succ n_5 ih_5 =>
      intro l1 l4 v H locs ls hP hD hS hl hf
      rw [f_Pd_append_5] at hf
      refine lv_iload hx hb d_Pd_append_5 (lv_at hl 2 rfl) ?_
      refine lv_if_lt (tgt := 57) hx hb d_Pd_append_7 (by decide) (fun c_7 => ?_) (fun c_7 => ?_)
      · replace hf := ob_et c_7 hf
        cases hf
        exact kV hx hb hr hlk hP hD hS d_Pd_append_57
      · replace hf := ob_ef c_7 hf
        refine lv_aload_n hx hb d_Pd_append_10 rfl (lv_at hl 0 rfl) ?_
        refine va_get (D := G.1) (ci := 3) (v := .int v.2) (C := R_Pd) (T := T_Pd) (N := 2) hx hb hts in_Pd hown hK hP 0 rfl rfl 1 (by decide) (hts _ k_183) (fun _ h9 => h9) rfl d_Pd_append_11 ?_
        refine lv_bipush (v := (80 : Int32)) hx hb d_Pd_append_14 (by decide) ?_
        refine lv_icmp_ge (tgt := 57) hx hb d_Pd_append_16 (by decide) (fun c_16 => ?_) (fun c_16 => ?_)
        · replace hf := ob_et c_16 hf
          cases hf
          exact kV hx hb hr hlk hP hD hS d_Pd_append_57
        · replace hf := ob_ef c_16 hf
          refine lv_aload_n hx hb d_Pd_append_19 rfl (lv_at hl 0 rfl) ?_
          refine va_get (D := G.1) (ci := 3) (v := .ref (a 1)) (C := R_Pd) (T := T_Pd) (N := 2) hx hb hts in_Pd hown hK hP 0 rfl rfl 0 (by decide) (hts _ k_182) (fun _ h9 => h9) rfl d_Pd_append_20 ?_
          refine lv_aload_n hx hb d_Pd_append_23 rfl (lv_at hl 0 rfl) ?_
          refine va_get (D := G.1) (ci := 3) (v := .int v.2) (C := R_Pd) (T := T_Pd) (N := 2) hx hb hts in_Pd hown hK hP 0 rfl rfl 1 (by decide) (hts _ k_183) (fun _ h9 => h9) rfl d_Pd_append_24 ?_
          refine lv_lload_n hx hb d_Pd_append_27 rfl (lv_at hl 1 rfl) ?_
          refine lv_bipush (v := (8 : Int32)) hx hb d_Pd_append_28 (by decide) ?_
          refine lv_iload hx hb d_Pd_append_30 (lv_at hl 2 rfl) ?_
          refine lv_imul hx hb d_Pd_append_32 ?_
          refine lv_lushr (v := (l1.toUInt64 >>> (((8 : Int32) * l4).toInt64.toUInt64 &&& Int64.toUInt64 63)).toInt64) hx hb d_Pd_append_33 rfl ?_
          refine lv_ldc2 (v := (255 : Int64)) hx hb hown (hts _ k_647) d_Pd_append_34 ?_
          refine lv_land hx hb d_Pd_append_37 ?_
          refine lv_l2i (v := ((l1.toUInt64 >>> (((8 : Int32) * l4).toInt64.toUInt64 &&& Int64.toUInt64 63)).toInt64 &&& (255 : Int64)).toInt32) hx hb d_Pd_append_38 rfl ?_
          refine lv_i2c (v := ((((l1.toUInt64 >>> (((8 : Int32) * l4).toInt64.toUInt64 &&& Int64.toUInt64 63)).toInt64 &&& (255 : Int64)).toInt32).toUInt32 % 65536).toInt32) hx hb d_Pd_append_39 rfl ?_
          obtain ⟨g_40, hf⟩ := og_e hf
          obtain ⟨r_40, er_40, hf⟩ := nx_e hf
          refine va_cast hx hb hK hP hD hS 1 1 rfl rfl g_40 d_Pd_append_40 (fun H locs hP hD hS => ?_)
          rw [← er_40] at hP hD
          have hP : va_P G.1 vwCl (W_Pd G a (r_40, v.2)) H := hP
          have hD : va_D A (W_Pd G a (r_40, v.2)) := hD
          refine lv_aload_n hx hb d_Pd_append_41 rfl (lv_at hl 0 rfl) ?_
          refine lv_dup hx hb d_Pd_append_42 rfl ?_
          refine va_get (D := G.1) (ci := 3) (v := .int v.2) (C := R_Pd) (T := T_Pd) (N := 2) hx hb hts in_Pd hown hK hP 0 rfl rfl 1 (by decide) (hts _ k_183) (fun _ h9 => h9) rfl d_Pd_append_43 ?_
          refine lv_iconst (v := (1 : Int32)) hx hb d_Pd_append_46 (by decide) ?_
          refine lv_iadd hx hb d_Pd_append_47 ?_
          refine va_put (D := G.1) (ci := 3) (v := .int (v.2 + (1 : Int32))) (ty := .int) (C := R_Pd) (T := T_Pd) (N := 2) hx hb hts in_Pd ty_Pd ty_Pd_ok nm_Pd hown hK hP hD hS 0 rfl rfl 1 (by decide) (hts _ k_183) (fun _ h9 => h9) rfl (ty_Pd_ok 1 (by decide)) rfl rfl (Nat.le_of_ble_eq_true rfl) d_Pd_append_48 (fun H locs hP hD hS => ?_)
          have hP : va_P G.1 vwCl (W_Pd G a (r_40, (v.2 + (1 : Int32)))) H := hP
          have hD : va_D A (W_Pd G a (r_40, (v.2 + (1 : Int32)))) := hD
          refine lv_iinc (v := (l4 + (-1 : Int32))) (lv' := [(4, .int (l4 + (-1 : Int32))), (0, .ref (a 0)), (1, .long l1)]) hx hb d_Pd_append_51 hl (k := 2) rfl rfl (by decide) rfl (fun ls hl => ?_)
          refine lv_goto (tgt := 5) hx hb d_Pd_append_54 (by decide) ?_
          exact ih_5 l1 (l4 + (-1 : Int32)) (r_40, (v.2 + (1 : Int32))) _ _ ls hP hD hS (lv_sub hl [1, 2, 0] rfl) hf
  unfold f_Pd_append at hf
  refine lv_iload_n hx hb d_Pd_append_0 rfl (lv_at hl 2 rfl) ?_
  refine lv_iconst (v := (1 : Int32)) hx hb d_Pd_append_1 (by decide) ?_
  refine lv_isub hx hb d_Pd_append_2 ?_
  refine lv_istore (lv' := [(4, .int (l3 - (1 : Int32))), (0, .ref (a 0)), (1, .long l1), (3, .int l3)]) hx hb d_Pd_append_3 hl (by decide) rfl (fun ls hl => ?_)
  exact J_5 FU l1 (l3 - (1 : Int32)) v _ _ ls hP hD hS (lv_sub hl [1, 2, 0] rfl) hf
set_option maxHeartbeats 4000000 in
set_option maxRecDepth 100000 in
theorem t_Pd_empty (l : Launch) (G : GG) (a : Nat → Nat) (v : V_Pd) (q : V_Pd) (hf : f_Pd_empty v = some q) : MV l G y_Pd_empty c_Pd_empty 1 (rmk 0 0) (W_Pd G a v) [.ref (a 0)] (W_Pd G a q) := by
  refine ofV "FloodDiary$Pad" (by decide +kernel) rfl (Nat.le_of_ble_eq_true rfl) (fun p e s m args below meth c A ls hx hb hr hml hown hts hlk hK hN hA hP hD hS hl => ?_)
  have hl : lv_has ls 1 [(0, .ref (a 0))] := hl
  unfold f_Pd_empty at hf
  refine lv_aload_n hx hb d_Pd_empty_0 rfl (lv_at hl 0 rfl) ?_
  refine lv_iconst (v := (0 : Int32)) hx hb d_Pd_empty_1 (by decide) ?_
  refine va_put (D := G.1) (ci := 3) (v := .int (0 : Int32)) (ty := .int) (C := R_Pd) (T := T_Pd) (N := 2) hx hb hts in_Pd ty_Pd ty_Pd_ok nm_Pd hown hK hP hD hS 0 rfl rfl 1 (by decide) (hts _ k_183) (fun _ h9 => h9) rfl (ty_Pd_ok 1 (by decide)) rfl rfl (Nat.le_of_ble_eq_true rfl) d_Pd_empty_2 (fun H locs hP hD hS => ?_)
  have hP : va_P G.1 vwCl (W_Pd G a (v.1, (0 : Int32))) H := hP
  have hD : va_D A (W_Pd G a (v.1, (0 : Int32))) := hD
  cases hf
  exact kV hx hb hr hlk hP hD hS d_Pd_empty_5
set_option maxHeartbeats 4000000 in
set_option maxRecDepth 100000 in
theorem t_Pd_at (l : Launch) (G : GG) (a : Nat → Nat) (l1 : Int32) (v : V_Pd) (q : Int32) (hf : f_Pd_at l1 v = some q) : MI l G y_Pd_at c_Pd_at 2 (some .int) (rmk 0 0) (W_Pd G a v) [.ref (a 0), .int l1] (W_Pd G a v) (q) := by
  refine ofI "FloodDiary$Pad" (by decide +kernel) rfl (Nat.le_of_ble_eq_true rfl) (fun p e s m args below meth c A ls hx hb hr hml hown hts hlk hK hN hA hP hD hS hl => ?_)
  have hl : lv_has ls 2 [(0, .ref (a 0)), (1, .int l1)] := hl
  unfold f_Pd_at at hf
  refine lv_iload_n hx hb d_Pd_at_0 rfl (lv_at hl 1 rfl) ?_
  refine lv_if_lt (tgt := 21) hx hb d_Pd_at_1 (by decide) (fun c_1 => ?_) (fun c_1 => ?_)
  · replace hf := ob_et c_1 hf
    refine lv_iconst (v := (0 : Int32)) hx hb d_Pd_at_21 (by decide) ?_
    cases hf
    exact kI hx hb hr hlk hP hD hS d_Pd_at_22
  · replace hf := ob_ef c_1 hf
    refine lv_iload_n hx hb d_Pd_at_4 rfl (lv_at hl 1 rfl) ?_
    refine lv_aload_n hx hb d_Pd_at_5 rfl (lv_at hl 0 rfl) ?_
    refine va_get (D := G.1) (ci := 3) (v := .int v.2) (C := R_Pd) (T := T_Pd) (N := 2) hx hb hts in_Pd hown hK hP 0 rfl rfl 1 (by decide) (hts _ k_183) (fun _ h9 => h9) rfl d_Pd_at_6 ?_
    refine lv_icmp_ge (tgt := 21) hx hb d_Pd_at_9 (by decide) (fun c_9 => ?_) (fun c_9 => ?_)
    · replace hf := ob_et c_9 hf
      refine lv_iconst (v := (0 : Int32)) hx hb d_Pd_at_21 (by decide) ?_
      cases hf
      exact kI hx hb hr hlk hP hD hS d_Pd_at_22
    · replace hf := ob_ef c_9 hf
      refine lv_aload_n hx hb d_Pd_at_12 rfl (lv_at hl 0 rfl) ?_
      refine va_get (D := G.1) (ci := 3) (v := .ref (a 1)) (C := R_Pd) (T := T_Pd) (N := 2) hx hb hts in_Pd hown hK hP 0 rfl rfl 0 (by decide) (hts _ k_182) (fun _ h9 => h9) rfl d_Pd_at_13 ?_
      refine lv_iload_n hx hb d_Pd_at_16 rfl (lv_at hl 1 rfl) ?_
      obtain ⟨g_17, hf⟩ := og_e hf
      refine va_cald hx hb hK hP 1 1 rfl rfl g_17 d_Pd_at_17 ?_
      refine lv_goto (tgt := 22) hx hb d_Pd_at_18 (by decide) ?_
      cases hf
      exact kI hx hb hr hlk hP hD hS d_Pd_at_22
