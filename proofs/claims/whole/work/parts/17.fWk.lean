noncomputable def f_Wk_has (l1 : Int32) (v : V_Wk) : Option (Int32) :=
  ob (l1 < 0) (some (0 : Int32)) (ob (v.2.2.2.2.2 ≤ l1) (some (0 : Int32)) (ob ((16 : Int32) ≤ l1) (some (0 : Int32)) (some (1 : Int32))))
noncomputable def f_Wk_isFull (v : V_Wk) : Option (Int32) :=
  ob (v.2.2.2.2.2 < (16 : Int32)) (some (0 : Int32)) (some (1 : Int32))
noncomputable def f_Wk_isOpen (l1 : Int32) (v : V_Wk) : Option (Int32) :=
  oc (f_Wk_has l1 v) (fun q_2 => ob (q_2 = 0) (some (0 : Int32)) (og (vp_in l1 16) (ob ((v.1 l1.toNatClampNeg) = 0) (some (1 : Int32)) (some (0 : Int32)))))
noncomputable def f_Wk_lastOf (l1 : Int32) (v : V_Wk) : Option (Int32) :=
  oc (f_Wk_has l1 v) (fun q_2 => ob (q_2 = 0) (some (0 : Int32)) (og (vp_in l1 16) (some (v.2.1 l1.toNatClampNeg))))
noncomputable def f_Wk_goOnOf (l1 : Int32) (v : V_Wk) : Option (Int32) :=
  oc (f_Wk_has l1 v) (fun q_2 => ob (q_2 = 0) (some (0 : Int32)) (og (vp_in l1 16) (some (v.2.2.2.2.1 l1.toNatClampNeg))))
noncomputable def f_Wk_holds (l1 : Int32) (l2 : Int32) (v : V_Wk) : Option (Int32) :=
  oc (f_Wk_isOpen l1 v) (fun q_2 => ob (q_2 = 0) (some (0 : Int32)) (oc (f_Fd_isPage l2) (fun q_9 => ob (q_9 = 0) (some (0 : Int32)) (og (vp_in l1 16) (ob ((((v.2.2.2.1 l1.toNatClampNeg) >>> (l2 &&& 31)) &&& (1 : Int32)) = (1 : Int32)) (some (1 : Int32)) (some (0 : Int32)))))))
noncomputable def f_Wk_holderOf_2 : Nat → Int32 → Int32 → V_Wk → Option (Int32)
  | 0 => fun _ _ _ => none
  | n_2 + 1 => fun l1 l2 v =>
  ob (v.2.2.2.2.2 ≤ l2) (some (-6 : Int32)) (oc (f_Wk_holds l2 l1 v) (fun q_13 => ob (q_13 = 0) (f_Wk_holderOf_2 n_2 l1 (l2 + (1 : Int32)) v) (some l2)))
noncomputable def f_Wk_holderOf (l1 : Int32) (v : V_Wk) : Option (Int32) :=
  f_Wk_holderOf_2 FU l1 (0 : Int32) v
noncomputable def f_Wk_openSet_4 : Nat → Int32 → Int32 → V_Wk → Option (Int32)
  | 0 => fun _ _ _ => none
  | n_4 + 1 => fun l1 l2 v =>
  ob (v.2.2.2.2.2 ≤ l2) (some l1) (oc (f_Wk_isOpen l2 v) (fun q_14 => ob (q_14 = 0) (f_Wk_openSet_4 n_4 l1 (l2 + (1 : Int32)) v) (f_Wk_openSet_4 n_4 (l1 ||| ((1 : Int32) <<< (l2 &&& 31))) (l2 + (1 : Int32)) v)))
noncomputable def f_Wk_openSet (v : V_Wk) : Option (Int32) :=
  f_Wk_openSet_4 FU (0 : Int32) (0 : Int32) v
noncomputable def f_Wk_nextToTakeBack_5 : Nat → Int32 → Int32 → V_Wk → Option (Int32)
  | 0 => fun _ _ _ => none
  | n_5 + 1 => fun l1 l2 v =>
  ob (v.2.2.2.2.2 ≤ l2) (some l1) (oc (f_Wk_isOpen l2 v) (fun q_15 => ob (q_15 = 0) (f_Wk_nextToTakeBack_5 n_5 l1 (l2 + (1 : Int32)) v) (oc (f_Wk_goOnOf l2 v) (fun q_23 => oc (f_Wk_goOnOf l1 v) (fun q_28 => ob (q_23 ≤ q_28) (f_Wk_nextToTakeBack_5 n_5 l1 (l2 + (1 : Int32)) v) (f_Wk_nextToTakeBack_5 n_5 l2 (l2 + (1 : Int32)) v))))))
noncomputable def f_Wk_nextToTakeBack (v : V_Wk) : Option (Int32) :=
  f_Wk_nextToTakeBack_5 FU (-6 : Int32) (0 : Int32) v
noncomputable def f_Wk_take_128 : Int32 → Int32 → Int32 → Int32 → Int32 → Int32 → V_Wk → Option (V_Wk) := fun l2 l3 l4 l6 s0 s1 v =>
  og (vp_in s1 16) (nx (upd v.2.2.2.2.1 s1.toNatClampNeg s0) (fun r_128 => ob (l6 = 0) (ob (l2 = (1 : Int32)) (og (vp_in l3 16) (og (vp_in l3 16) (nx (upd v.2.2.2.1 l3.toNatClampNeg ((v.2.2.2.1 l3.toNatClampNeg) ||| ((1 : Int32) <<< (l4 &&& 31)))) (fun r_161 => some (v.1, v.2.1, v.2.2.1, r_161, r_128, v.2.2.2.2.2))))) (some (v.1, v.2.1, v.2.2.1, v.2.2.2.1, r_128, v.2.2.2.2.2))) (og (vp_in l3 16) (nx (upd v.2.2.2.1 l3.toNatClampNeg (0 : Int32)) (fun r_140 => some (v.1, v.2.1, v.2.2.1, r_140, r_128, v.2.2.2.2.2))))))
noncomputable def f_Wk_take_85 : Int32 → Int32 → Int32 → Int32 → Int32 → Int32 → Int32 → Int32 → V_Wk → Option (V_Wk) := fun l1 l2 l3 l4 l5 l6 s0 s1 v =>
  og (vp_in s1 16) (nx (upd v.1 s1.toNatClampNeg s0) (fun r_85 => og (vp_in l3 16) (nx (upd v.2.1 l3.toNatClampNeg l1) (fun r_92 => og (vp_in l3 16) (og (vp_in l3 16) (nx (upd v.2.2.1 l3.toNatClampNeg ((v.2.2.1 l3.toNatClampNeg) + (1 : Int32))) (fun r_102 => ob (l6 = 0) (ob (l2 = (2 : Int32)) (f_Wk_take_128 l2 l3 l4 l6 l5 l3 (r_85, r_92, r_102, v.2.2.2.1, v.2.2.2.2.1, v.2.2.2.2.2)) (f_Wk_take_128 l2 l3 l4 l6 l1 l3 (r_85, r_92, r_102, v.2.2.2.1, v.2.2.2.2.1, v.2.2.2.2.2))) (f_Wk_take_128 l2 l3 l4 l6 (0 : Int32) l3 (r_85, r_92, r_102, v.2.2.2.1, v.2.2.2.2.1, v.2.2.2.2.2)))))))))
noncomputable def f_Wk_take_59 : Int32 → Int32 → Int32 → Int32 → Int32 → Int32 → V_Wk → Option (V_Wk) := fun l1 l2 l3 l4 l5 s0 v =>
  ob (l2 = (3 : Int32)) (f_Wk_take_85 l1 l2 l3 l4 l5 s0 (1 : Int32) l3 v) (ob (l2 = (4 : Int32)) (f_Wk_take_85 l1 l2 l3 l4 l5 s0 (2 : Int32) l3 v) (f_Wk_take_85 l1 l2 l3 l4 l5 s0 (0 : Int32) l3 v))
noncomputable def f_Wk_take_35 : Int32 → Int32 → Int32 → Int32 → Int32 → V_Wk → Option (V_Wk) := fun l1 l2 l3 l4 l5 v =>
  oc (f_Wk_has l3 v) (fun q_37 => ob (q_37 = 0) (some v) (ob (l2 = (3 : Int32)) (f_Wk_take_59 l1 l2 l3 l4 l5 (1 : Int32) v) (ob (l2 = (4 : Int32)) (f_Wk_take_59 l1 l2 l3 l4 l5 (1 : Int32) v) (f_Wk_take_59 l1 l2 l3 l4 l5 (0 : Int32) v))))
noncomputable def f_Wk_take (l1 : Int32) (l2 : Int32) (l3 : Int32) (l4 : Int32) (l5 : Int32) (v : V_Wk) : Option (V_Wk) :=
  ob (l2 = 0) (ob (l3 < 0) (f_Wk_take_35 l1 l2 l3 l4 l5 v) (ob ((16 : Int32) ≤ l3) (f_Wk_take_35 l1 l2 l3 l4 l5 v) (og (vp_in l3 16) (nx (upd v.2.2.1 l3.toNatClampNeg (0 : Int32)) (fun r_27 => og (vp_in l3 16) (nx (upd v.2.2.2.1 l3.toNatClampNeg (0 : Int32)) (fun r_34 => f_Wk_take_35 l1 l2 l3 l4 l5 (v.1, v.2.1, r_27, r_34, v.2.2.2.2.1, (l3 + (1 : Int32)))))))))) (f_Wk_take_35 l1 l2 l3 l4 l5 v)
noncomputable def f_Wk_readAnew_7 : Nat → Int32 → V_Wk → V_Dy → Option (V_Wk)
  | 0 => fun _ _ _ => none
  | n_7 + 1 => fun l2 v u =>
  ob (u.2.2.2.2.2.2.2.1 < l2) (some v) (oc (f_Dy_kindOf l2 u) (fun q_19 => oc (f_Dy_workOf l2 u) (fun q_24 => oc (f_Dy_pageOf l2 u) (fun q_29 => oc (f_Dy_nextOf l2 u) (fun q_34 => oc (f_Wk_take l2 q_19 q_24 q_29 q_34 v) (fun q_37 => f_Wk_readAnew_7 n_7 (l2 + (1 : Int32)) q_37 u))))))
noncomputable def f_Wk_readAnew (v : V_Wk) (u : V_Dy) : Option (V_Wk) :=
  f_Wk_readAnew_7 FU (1 : Int32) (v.1, v.2.1, v.2.2.1, v.2.2.2.1, v.2.2.2.2.1, (0 : Int32)) u
noncomputable def f_Wk_about (l1 : Int32) (l2 : Int32) (v : V_Wk) : Option (Int32) :=
  oc (f_Wk_has l1 v) (fun q_2 => ob (q_2 = 0) (some (-1 : Int32)) (ob (l2 = (0 : Int32)) (og (vp_in l1 16) (some (v.1 l1.toNatClampNeg))) (ob (l2 = (1 : Int32)) (og (vp_in l1 16) (some (v.2.1 l1.toNatClampNeg))) (ob (l2 = (2 : Int32)) (og (vp_in l1 16) (some (v.2.2.1 l1.toNatClampNeg))) (ob (l2 = (3 : Int32)) (og (vp_in l1 16) (some (v.2.2.2.1 l1.toNatClampNeg))) (ob (l2 = (4 : Int32)) (og (vp_in l1 16) (some (v.2.2.2.2.1 l1.toNatClampNeg))) (some (-2 : Int32))))))))
noncomputable def f_Wk_become (v : V_Wk) (u : V_Wk) : Option (V_Wk) :=
  og ((¬ (0 : Int32) < 0) ∧ (¬ (0 : Int32) < 0) ∧ (¬ (16 : Int32) < 0) ∧ (0 : Int32).toNatClampNeg + (16 : Int32).toNatClampNeg ≤ 16 ∧ (0 : Int32).toNatClampNeg + (16 : Int32).toNatClampNeg ≤ 16) (nx (va_cpy u.1 v.1 (0 : Int32).toNatClampNeg (0 : Int32).toNatClampNeg (16 : Int32).toNatClampNeg) (fun r_12 => og ((¬ (0 : Int32) < 0) ∧ (¬ (0 : Int32) < 0) ∧ (¬ (16 : Int32) < 0) ∧ (0 : Int32).toNatClampNeg + (16 : Int32).toNatClampNeg ≤ 16 ∧ (0 : Int32).toNatClampNeg + (16 : Int32).toNatClampNeg ≤ 16) (nx (va_cpy u.2.1 v.2.1 (0 : Int32).toNatClampNeg (0 : Int32).toNatClampNeg (16 : Int32).toNatClampNeg) (fun r_27 => og ((¬ (0 : Int32) < 0) ∧ (¬ (0 : Int32) < 0) ∧ (¬ (16 : Int32) < 0) ∧ (0 : Int32).toNatClampNeg + (16 : Int32).toNatClampNeg ≤ 16 ∧ (0 : Int32).toNatClampNeg + (16 : Int32).toNatClampNeg ≤ 16) (nx (va_cpy u.2.2.1 v.2.2.1 (0 : Int32).toNatClampNeg (0 : Int32).toNatClampNeg (16 : Int32).toNatClampNeg) (fun r_42 => og ((¬ (0 : Int32) < 0) ∧ (¬ (0 : Int32) < 0) ∧ (¬ (16 : Int32) < 0) ∧ (0 : Int32).toNatClampNeg + (16 : Int32).toNatClampNeg ≤ 16 ∧ (0 : Int32).toNatClampNeg + (16 : Int32).toNatClampNeg ≤ 16) (nx (va_cpy u.2.2.2.1 v.2.2.2.1 (0 : Int32).toNatClampNeg (0 : Int32).toNatClampNeg (16 : Int32).toNatClampNeg) (fun r_57 => og ((¬ (0 : Int32) < 0) ∧ (¬ (0 : Int32) < 0) ∧ (¬ (16 : Int32) < 0) ∧ (0 : Int32).toNatClampNeg + (16 : Int32).toNatClampNeg ≤ 16 ∧ (0 : Int32).toNatClampNeg + (16 : Int32).toNatClampNeg ≤ 16) (nx (va_cpy u.2.2.2.2.1 v.2.2.2.2.1 (0 : Int32).toNatClampNeg (0 : Int32).toNatClampNeg (16 : Int32).toNatClampNeg) (fun r_72 => some (r_12, r_27, r_42, r_57, r_72, u.2.2.2.2.2)))))))))))
