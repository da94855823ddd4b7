noncomputable def f_Fd_isPage (l0 : Int32) : Option (Int32) :=
  ob (l0 < 0) (some (0 : Int32)) (ob ((8 : Int32) ≤ l0) (some (0 : Int32)) (some (1 : Int32)))
noncomputable def f_Fd_isSlot (l0 : Int32) : Option (Int32) :=
  ob (l0 < 0) (some (0 : Int32)) (ob ((2 : Int32) ≤ l0) (some (0 : Int32)) (some (1 : Int32)))
noncomputable def f_Fd_isChange (l0 : Int32) : Option (Int32) :=
  ob (l0 = (1 : Int32)) (some (1 : Int32)) (ob (l0 = (2 : Int32)) (some (1 : Int32)) (some (0 : Int32)))
noncomputable def f_Fd_asNumber (l0 : Int32) : Option (Int32) :=
  ob (l0 = 0) (some (0 : Int32)) (some (1 : Int32))
noncomputable def f_Fd_charactersIn_5 : Nat → Int64 → Int32 → Option (Int32)
  | 0 => fun _ _ => none
  | n_5 + 1 => fun l2 l4 =>
  ob ((8 : Int32) ≤ l4) (some l4) (ob ((lg_cmp l2 (0 : Int64)) = 0) (some l4) (ob ((l2 &&& (255 : Int64)).toInt32 < (33 : Int32)) (some (0 : Int32)) (ob ((l2 &&& (255 : Int64)).toInt32 ≤ (126 : Int32)) (f_Fd_charactersIn_5 n_5 ((l2.toUInt64 >>> ((8 : Int32).toInt64.toUInt64 &&& Int64.toUInt64 63)).toInt64) (l4 + (1 : Int32))) (some (0 : Int32)))))
noncomputable def f_Fd_charactersIn (l0 : Int64) : Option (Int32) :=
  f_Fd_charactersIn_5 FU l0 (0 : Int32)
noncomputable def f_Pg_isInHand (l1 : Int32) (v : V_Pg) : Option (Int32) :=
  oc (f_Fd_isPage l1) (fun q_1 => ob (q_1 = 0) (some (0 : Int32)) (ob (((v.2.2.2.2 >>> (l1 &&& 31)) &&& (1 : Int32)) = (1 : Int32)) (some (1 : Int32)) (some (0 : Int32))))
noncomputable def f_Pg_isDirty (l1 : Int32) (v : V_Pg) : Option (Int32) :=
  oc (f_Pg_isInHand l1 v) (fun q_2 => ob (q_2 = 0) (some (0 : Int32)) (og (vp_in l1 8) (og (vp_in l1 8) (ob ((v.2.2.2.1 l1.toNatClampNeg) = (v.2.1 l1.toNatClampNeg)) (some (0 : Int32)) (some (1 : Int32))))))
noncomputable def f_Pg_dirtySet_4 : Nat → Int32 → Int32 → V_Pg → Option (Int32)
  | 0 => fun _ _ _ => none
  | n_4 + 1 => fun l1 l2 v =>
  ob ((8 : Int32) ≤ l2) (some l1) (oc (f_Pg_isDirty l2 v) (fun q_12 => ob (q_12 = 0) (f_Pg_dirtySet_4 n_4 l1 (l2 + (1 : Int32)) v) (f_Pg_dirtySet_4 n_4 (l1 ||| ((1 : Int32) <<< (l2 &&& 31))) (l2 + (1 : Int32)) v)))
noncomputable def f_Pg_dirtySet (v : V_Pg) : Option (Int32) :=
  f_Pg_dirtySet_4 FU (0 : Int32) (0 : Int32) v
noncomputable def f_Pg_valueOnShelf (l1 : Int32) (v : V_Pg) : Option (Int32) :=
  oc (f_Fd_isPage l1) (fun q_1 => ob (q_1 = 0) (some (-6 : Int32)) (og (vp_in l1 8) (some (v.1 l1.toNatClampNeg))))
noncomputable def f_Pg_markOnShelf (l1 : Int32) (v : V_Pg) : Option (Int32) :=
  oc (f_Fd_isPage l1) (fun q_1 => ob (q_1 = 0) (some (-6 : Int32)) (og (vp_in l1 8) (some (v.2.1 l1.toNatClampNeg))))
noncomputable def f_Pg_valueInHand (l1 : Int32) (v : V_Pg) : Option (Int32) :=
  oc (f_Pg_isInHand l1 v) (fun q_2 => ob (q_2 = 0) (some (-6 : Int32)) (og (vp_in l1 8) (some (v.2.2.1 l1.toNatClampNeg))))
noncomputable def f_Pg_markInHand (l1 : Int32) (v : V_Pg) : Option (Int32) :=
  oc (f_Pg_isInHand l1 v) (fun q_2 => ob (q_2 = 0) (some (-6 : Int32)) (og (vp_in l1 8) (some (v.2.2.2.1 l1.toNatClampNeg))))
noncomputable def f_Pg_change (l1 : Int32) (l2 : Int32) (l3 : Int32) (v : V_Pg) : Option (V_Pg) :=
  oc (f_Fd_isPage l1) (fun q_1 => ob (q_1 = 0) (some v) (og (vp_in l1 8) (nx (upd v.2.2.1 l1.toNatClampNeg l2) (fun r_13 => og (vp_in l1 8) (nx (upd v.2.2.2.1 l1.toNatClampNeg l3) (fun r_20 => some (v.1, v.2.1, r_13, r_20, (v.2.2.2.2 ||| ((1 : Int32) <<< (l1 &&& 31))))))))))
noncomputable def f_Pg_takeIntoHand (l1 : Int32) (v : V_Pg) : Option (V_Pg) :=
  oc (f_Fd_isPage l1) (fun q_1 => ob (q_1 = 0) (some v) (oc (f_Pg_isInHand l1 v) (fun q_9 => ob (q_9 = 0) (og (vp_in l1 8) (og (vp_in l1 8) (oc (f_Pg_change l1 (v.1 l1.toNatClampNeg) (v.2.1 l1.toNatClampNeg) v) (fun q_29 => some q_29)))) (some v))))
noncomputable def f_Pg_shelve (l1 : Int32) (v : V_Pg) : Option (V_Pg) :=
  oc (f_Pg_isInHand l1 v) (fun q_2 => ob (q_2 = 0) (some v) (og (vp_in l1 8) (og (vp_in l1 8) (nx (upd v.1 l1.toNatClampNeg (v.2.2.1 l1.toNatClampNeg)) (fun r_19 => og (vp_in l1 8) (og (vp_in l1 8) (nx (upd v.2.1 l1.toNatClampNeg (v.2.2.2.1 l1.toNatClampNeg)) (fun r_31 => some (r_19, r_31, v.2.2.1, v.2.2.2.1, v.2.2.2.2)))))))))
noncomputable def f_Pg_leaveHand (v : V_Pg) : Option (V_Pg) :=
  some (v.1, v.2.1, v.2.2.1, v.2.2.2.1, (0 : Int32))
noncomputable def f_Pg_highestShelfMark_4 : Nat → Int32 → Int32 → V_Pg → Option (Int32)
  | 0 => fun _ _ _ => none
  | n_4 + 1 => fun l1 l2 v =>
  ob ((8 : Int32) ≤ l2) (some l1) (og (vp_in l2 8) (f_Pg_highestShelfMark_4 n_4 (if l1 < (v.2.1 l2.toNatClampNeg) then (v.2.1 l2.toNatClampNeg) else l1) (l2 + (1 : Int32)) v))
noncomputable def f_Pg_highestShelfMark (v : V_Pg) : Option (Int32) :=
  f_Pg_highestShelfMark_4 FU (0 : Int32) (0 : Int32) v
noncomputable def f_Pg_become (v : V_Pg) (u : V_Pg) : Option (V_Pg) :=
  og ((¬ (0 : Int32) < 0) ∧ (¬ (0 : Int32) < 0) ∧ (¬ (8 : Int32) < 0) ∧ (0 : Int32).toNatClampNeg + (8 : Int32).toNatClampNeg ≤ 8 ∧ (0 : Int32).toNatClampNeg + (8 : Int32).toNatClampNeg ≤ 8) (nx (va_cpy u.1 v.1 (0 : Int32).toNatClampNeg (0 : Int32).toNatClampNeg (8 : Int32).toNatClampNeg) (fun r_12 => og ((¬ (0 : Int32) < 0) ∧ (¬ (0 : Int32) < 0) ∧ (¬ (8 : Int32) < 0) ∧ (0 : Int32).toNatClampNeg + (8 : Int32).toNatClampNeg ≤ 8 ∧ (0 : Int32).toNatClampNeg + (8 : Int32).toNatClampNeg ≤ 8) (nx (va_cpy u.2.1 v.2.1 (0 : Int32).toNatClampNeg (0 : Int32).toNatClampNeg (8 : Int32).toNatClampNeg) (fun r_27 => og ((¬ (0 : Int32) < 0) ∧ (¬ (0 : Int32) < 0) ∧ (¬ (8 : Int32) < 0) ∧ (0 : Int32).toNatClampNeg + (8 : Int32).toNatClampNeg ≤ 8 ∧ (0 : Int32).toNatClampNeg + (8 : Int32).toNatClampNeg ≤ 8) (nx (va_cpy u.2.2.1 v.2.2.1 (0 : Int32).toNatClampNeg (0 : Int32).toNatClampNeg (8 : Int32).toNatClampNeg) (fun r_42 => og ((¬ (0 : Int32) < 0) ∧ (¬ (0 : Int32) < 0) ∧ (¬ (8 : Int32) < 0) ∧ (0 : Int32).toNatClampNeg + (8 : Int32).toNatClampNeg ≤ 8 ∧ (0 : Int32).toNatClampNeg + (8 : Int32).toNatClampNeg ≤ 8) (nx (va_cpy u.2.2.2.1 v.2.2.2.1 (0 : Int32).toNatClampNeg (0 : Int32).toNatClampNeg (8 : Int32).toNatClampNeg) (fun r_57 => some (r_12, r_27, r_42, r_57, u.2.2.2.2)))))))))
