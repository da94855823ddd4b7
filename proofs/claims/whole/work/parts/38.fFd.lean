noncomputable def f_Fd_tryFlood (v : V_Fd) : Option (V_Fd) :=
  oc (f_St_become v.2.1 v.1) (fun q_8 => ob (q_8.2.2.2.1 = 0) (oc (f_St_takeFlood q_8) (fun q_25 => some (v.1, q_25.2, v.2.2.1, v.2.2.2.1, v.2.2.2.2))) (some (v.1, q_8, v.2.2.1, v.2.2.2.1, v.2.2.2.2)))
noncomputable def f_Fd_begin (v : V_Fd) : Option (Int32 × V_Fd) :=
  oc (f_Hi_prepare v.2.2.2.2 v.1) (fun q_8 => oc (f_St_beginWork v.1) (fun q_19 => oc (f_Hi_record q_19.1 q_8) (fun q_22 => some (q_22.1, (q_19.2, v.2.1, v.2.2.1, v.2.2.2.1, q_22.2)))))
noncomputable def f_Fd_write (l1 : Int32) (l2 : Int32) (l3 : Int32) (v : V_Fd) : Option (Int32 × V_Fd) :=
  oc (f_Hi_prepare v.2.2.2.2 v.1) (fun q_8 => oc (f_St_writePage l1 l2 l3 v.1) (fun q_22 => oc (f_Hi_record q_22.1 q_8) (fun q_25 => some (q_25.1, (q_22.2, v.2.1, v.2.2.1, v.2.2.2.1, q_25.2)))))
noncomputable def f_Fd_finish (l1 : Int32) (v : V_Fd) : Option (Int32 × V_Fd) :=
  oc (f_Hi_prepare v.2.2.2.2 v.1) (fun q_8 => oc (f_St_finishWork l1 v.1) (fun q_20 => oc (f_Hi_record q_20.1 q_8) (fun q_23 => some (q_23.1, (q_20.2, v.2.1, v.2.2.1, v.2.2.2.1, q_23.2)))))
noncomputable def f_Fd_tear (l1 : Int32) (v : V_Fd) : Option (Int32 × V_Fd) :=
  oc (f_Hi_prepare v.2.2.2.2 v.1) (fun q_8 => oc (f_St_tearWork l1 v.1) (fun q_20 => oc (f_Hi_record q_20.1 q_8) (fun q_23 => some (q_23.1, (q_20.2, v.2.1, v.2.2.1, v.2.2.2.1, q_23.2)))))
noncomputable def f_Fd_save (l1 : Int32) (v : V_Fd) : Option (Int32 × V_Fd) :=
  oc (f_Hi_prepare v.2.2.2.2 v.1) (fun q_8 => oc (f_St_saveEntries l1 v.1) (fun q_20 => oc (f_Hi_record q_20.1 q_8) (fun q_23 => some (q_23.1, (q_20.2, v.2.1, v.2.2.1, v.2.2.2.1, q_23.2)))))
noncomputable def f_Fd_putAway (l1 : Int32) (v : V_Fd) : Option (Int32 × V_Fd) :=
  oc (f_Hi_prepare v.2.2.2.2 v.1) (fun q_8 => oc (f_St_shelvePage l1 v.1) (fun q_20 => oc (f_Hi_record q_20.1 q_8) (fun q_23 => some (q_23.1, (q_20.2, v.2.1, v.2.2.1, v.2.2.2.1, q_23.2)))))
noncomputable def f_Fd_flood (v : V_Fd) : Option (Int32 × V_Fd) :=
  oc (f_Hi_prepare v.2.2.2.2 v.1) (fun q_8 => oc (f_St_takeFlood v.1) (fun q_19 => oc (f_Hi_record q_19.1 q_8) (fun q_22 => some (q_22.1, (q_19.2, v.2.1, v.2.2.1, v.2.2.2.1, q_22.2)))))
noncomputable def f_Fd_blur (l1 : Int32) (v : V_Fd) : Option (Int32 × V_Fd) :=
  oc (f_Hi_prepare v.2.2.2.2 v.1) (fun q_8 => oc (f_St_blurEntries l1 v.1) (fun q_20 => oc (f_Hi_record q_20.1 q_8) (fun q_23 => some (q_23.1, (q_20.2, v.2.1, v.2.2.1, v.2.2.2.1, q_23.2)))))
noncomputable def f_Fd_mend (l1 : Int32) (v : V_Fd) : Option (Int32 × V_Fd) :=
  oc (f_Hi_prepare v.2.2.2.2 v.1) (fun q_8 => oc (f_St_mendSteps l1 v.1) (fun q_20 => oc (f_Hi_record q_20.1 q_8) (fun q_23 => some (q_23.1, (q_20.2, v.2.1, v.2.2.1, v.2.2.2.1, q_23.2)))))
noncomputable def f_Fd_ofPage (l1 : Int32) (l2 : Int32) (v : V_Fd) : Option (Int32) :=
  oc (f_St_aboutPage l1 l2 v.1) (fun q_6 => some q_6)
noncomputable def f_Fd_ofWork (l1 : Int32) (l2 : Int32) (v : V_Fd) : Option (Int32) :=
  oc (f_Wk_about l1 l2 v.1.2.2.1) (fun q_9 => some q_9)
noncomputable def f_Fd_ofEntry (l1 : Int32) (l2 : Int32) (v : V_Fd) : Option (Int32) :=
  oc (f_Dy_about l1 l2 v.1.2.1) (fun q_9 => some q_9)
noncomputable def f_Fd_count (l1 : Int32) (v : V_Fd) : Option (Int32) :=
  ob (l1 = (9 : Int32)) (oc (f_Pd_length v.2.2.1) (fun q_32 => some q_32)) (ob (l1 = (10 : Int32)) (oc (f_Hi_length v.2.2.2.2) (fun q_40 => some q_40)) (oc (f_St_number l1 v.1) (fun q_49 => some q_49)))
noncomputable def f_Fd_stepsToMend (v : V_Fd) : Option (Int32 × V_Fd) :=
  oc (f_Fd_tryFlood v) (fun q_1 => oc (f_St_mendSteps (999 : Int32) q_1.2.1) (fun q_11 => some (q_11.1, (q_1.1, q_11.2, q_1.2.2.1, q_1.2.2.2.1, q_1.2.2.2.2))))
noncomputable def f_Fd_wouldBe (l1 : Int32) (v : V_Fd) : Option (Int32 × V_Fd) :=
  oc (f_Fd_isPage l1) (fun q_1 => ob (q_1 = 0) (some ((-1 : Int32), v)) (oc (f_Fd_tryFlood v) (fun q_10 => oc (f_St_mendSteps (999 : Int32) q_10.2.1) (fun q_20 => oc (f_Pg_takeIntoHand l1 q_20.2.1) (fun q_32 => oc (f_Pg_valueInHand l1 ((q_32, q_20.2.2.1, q_20.2.2.2.1, q_20.2.2.2.2.1, q_20.2.2.2.2.2.1, q_20.2.2.2.2.2.2.1, q_20.2.2.2.2.2.2.2.1, q_20.2.2.2.2.2.2.2.2.1, q_20.2.2.2.2.2.2.2.2.2).1)) (fun q_43 => some (q_43, (q_10.1, (q_32, q_20.2.2.1, q_20.2.2.2.1, q_20.2.2.2.2.1, q_20.2.2.2.2.2.1, q_20.2.2.2.2.2.2.1, q_20.2.2.2.2.2.2.2.1, q_20.2.2.2.2.2.2.2.2.1, q_20.2.2.2.2.2.2.2.2.2), q_10.2.2.1, q_10.2.2.2.1, q_10.2.2.2.2))))))))
noncomputable def f_Fd_firstNeeded (v : V_Fd) : Option (Int32) :=
  oc (f_St_lowestNeeded v.1) (fun q_4 => some q_4)
noncomputable def f_Fd_settled (l1 : Int32) (v : V_Fd) : Option (Int32 × V_Fd) :=
  oc (f_Fd_isPage l1) (fun q_1 => ob (q_1 = 0) (some ((-1 : Int32), v)) (ob (v.1.2.2.2.1 = 0) (oc (f_St_become v.2.1 v.1) (fun q_30 => oc (f_St_tearAllOpen q_30) (fun q_37 => oc (f_Pg_takeIntoHand l1 q_37.1) (fun q_48 => oc (f_Pg_valueInHand l1 ((q_48, q_37.2.1, q_37.2.2.1, q_37.2.2.2.1, q_37.2.2.2.2.1, q_37.2.2.2.2.2.1, q_37.2.2.2.2.2.2.1, q_37.2.2.2.2.2.2.2.1, q_37.2.2.2.2.2.2.2.2).1)) (fun q_59 => some (q_59, (v.1, (q_48, q_37.2.1, q_37.2.2.1, q_37.2.2.2.1, q_37.2.2.2.2.1, q_37.2.2.2.2.2.1, q_37.2.2.2.2.2.2.1, q_37.2.2.2.2.2.2.2.1, q_37.2.2.2.2.2.2.2.2), v.2.2.1, v.2.2.2.1, v.2.2.2.2))))))) (some ((-5 : Int32), v))))
noncomputable def f_Fd_put (l1 : Int64) (v : V_Fd) : Option (Int32 × V_Fd) :=
  oc (f_Fd_charactersIn l1) (fun q_1 => ob (q_1 = 0) (some ((-2 : Int32), v)) (oc (f_Pd_hasRoomFor q_1 v.2.2.1) (fun q_17 => ob (q_17 = 0) (some ((-4 : Int32), v)) (oc (f_Pd_append l1 q_1 v.2.2.1) (fun q_32 => oc (f_Pd_length q_32) (fun q_39 => some (q_39, (v.1, v.2.1, q_32, v.2.2.2.1, v.2.2.2.2))))))))
noncomputable def f_Fd_wipe (v : V_Fd) : Option (Int32 × V_Fd) :=
  oc (f_Pd_length v.2.2.1) (fun q_4 => oc (f_Pd_empty v.2.2.1) (fun q_12 => some (q_4, (v.1, v.2.1, q_12, v.2.2.2.1, v.2.2.2.2))))
noncomputable def f_Fd_fault (v : V_Fd) : Option (Int32 × V_Fd) :=
  oc (f_Or_read v.2.2.2.1 v.2.2.1) (fun q_8 => oc (f_Or_firstFault q_8) (fun q_15 => some (q_15, (v.1, v.2.1, v.2.2.1, q_8, v.2.2.2.2))))
noncomputable def f_Fd_carryOut_39 : Nat → Int32 → V_Fd → Option (Int32 × V_Fd)
  | 0 => fun _ _ => none
  | n_39 + 1 => fun l1 v =>
  oc (f_Or_length v.2.2.2.1) (fun q_44 => ob (q_44 ≤ l1) (oc (f_Pd_empty v.2.2.1) (fun q_75 => oc (f_Hi_record l1 v.2.2.2.2) (fun q_83 => some (q_83.1, (v.1, v.2.1, q_75, v.2.2.2.1, q_83.2))))) (oc (f_Or_obey l1 v.2.2.2.1 v.1) (fun q_59 => ob (q_59.1 < 0) (oc (f_Pd_empty v.2.2.1) (fun q_75 => oc (f_Hi_record l1 v.2.2.2.2) (fun q_83 => some (q_83.1, (q_59.2, v.2.1, q_75, v.2.2.2.1, q_83.2))))) (f_Fd_carryOut_39 n_39 (l1 + (1 : Int32)) (q_59.2, v.2.1, v.2.2.1, v.2.2.2.1, v.2.2.2.2)))))
noncomputable def f_Fd_carryOut (v : V_Fd) : Option (Int32 × V_Fd) :=
  oc (f_Or_read v.2.2.2.1 v.2.2.1) (fun q_8 => oc (f_Or_firstFault q_8) (fun q_15 => ob (q_15 = (-6 : Int32)) (oc (f_Hi_prepare v.2.2.2.2 v.1) (fun q_34 => f_Fd_carryOut_39 FU (0 : Int32) (v.1, v.2.1, v.2.2.1, q_8, q_34))) (some ((-3 : Int32), (v.1, v.2.1, v.2.2.1, q_8, v.2.2.2.2)))))
noncomputable def f_Fd_undo (v : V_Fd) : Option (Int32 × V_Fd) :=
  oc (f_Hi_length v.2.2.2.2) (fun q_4 => ob (q_4 = 0) (some ((-5 : Int32), v)) (oc (f_Hi_takeBack v.2.2.2.2 v.1) (fun q_21 => oc (f_Hi_length q_21.1) (fun q_28 => some (q_28, (q_21.2, v.2.1, v.2.2.1, v.2.2.2.1, q_21.1))))))
