noncomputable def f_S1_store_0 (v : V_S1) (u : V_St) : Option (V_S1) :=
  oc (f_Fd_isSlot (0 : Int32)) (fun q_1 => ob (q_1 = 0) (some v) (og (vp_in (0 : Int32) 2) (ob ((0 : Int32).toNatClampNeg = 0) (oc (f_St_become v u) (fun q_35 => some q_35)) (ob ((0 : Int32).toNatClampNeg = 1) (none) (none)))))
noncomputable def f_S2_store_1 (v : V_S2) (u : V_St) : Option (V_S2) :=
  oc (f_Fd_isSlot (1 : Int32)) (fun q_1 => ob (q_1 = 0) (some v) (og (vp_in (1 : Int32) 2) (ob ((1 : Int32).toNatClampNeg = 0) (none) (ob ((1 : Int32).toNatClampNeg = 1) (oc (f_St_become v u) (fun q_35 => some q_35)) (none)))))
noncomputable def f_S3_store_0 (v : V_S3) (u : V_St) : Option (V_S3) :=
  oc (f_Fd_isSlot (0 : Int32)) (fun q_1 => ob (q_1 = 0) (some v) (og (vp_in (0 : Int32) 2) (ob ((0 : Int32).toNatClampNeg = 0) (oc (f_St_become v.1 u) (fun q_35 => some (q_35, v.2))) (ob ((0 : Int32).toNatClampNeg = 1) (none) (none)))))
noncomputable def f_S3_store_1 (v : V_S3) (u : V_St) : Option (V_S3) :=
  oc (f_Fd_isSlot (1 : Int32)) (fun q_1 => ob (q_1 = 0) (some v) (og (vp_in (1 : Int32) 2) (ob ((1 : Int32).toNatClampNeg = 0) (none) (ob ((1 : Int32).toNatClampNeg = 1) (oc (f_St_become v.2 u) (fun q_35 => some (v.1, q_35))) (none)))))
noncomputable def f_Fd_keepN (l1 : Int32) (v : V_Fd) : Option (Int32 × V_Fd) :=
  oc (f_Fd_isSlot l1) (fun q_1 => ob (q_1 = 0) (some ((-2 : Int32), v)) (none))
