noncomputable def f_S0_isFilled (l1 : Int32) (v : V_S0) : Option (Int32) :=
  oc (f_Fd_isSlot l1) (fun q_1 => ob (q_1 = 0) (some (0 : Int32)) (og (vp_in l1 2) (ob (l1.toNatClampNeg = 0) (some (0 : Int32)) (ob (l1.toNatClampNeg = 1) (some (0 : Int32)) (none)))))
noncomputable def f_S0_fetch (l1 : Int32) (v : V_S0) (u : V_St) : Option (V_St) :=
  oc (f_Fd_isSlot l1) (fun q_1 => ob (q_1 = 0) (some u) (og (vp_in l1 2) (ob (l1.toNatClampNeg = 0) (some u) (ob (l1.toNatClampNeg = 1) (some u) (none)))))
noncomputable def f_S1_isFilled (l1 : Int32) (v : V_S1) : Option (Int32) :=
  oc (f_Fd_isSlot l1) (fun q_1 => ob (q_1 = 0) (some (0 : Int32)) (og (vp_in l1 2) (ob (l1.toNatClampNeg = 0) (some (1 : Int32)) (ob (l1.toNatClampNeg = 1) (some (0 : Int32)) (none)))))
noncomputable def f_S1_fetch (l1 : Int32) (v : V_S1) (u : V_St) : Option (V_St) :=
  oc (f_Fd_isSlot l1) (fun q_1 => ob (q_1 = 0) (some u) (og (vp_in l1 2) (ob (l1.toNatClampNeg = 0) (oc (f_St_become u v) (fun q_20 => some q_20)) (ob (l1.toNatClampNeg = 1) (some u) (none)))))
noncomputable def f_S2_isFilled (l1 : Int32) (v : V_S2) : Option (Int32) :=
  oc (f_Fd_isSlot l1) (fun q_1 => ob (q_1 = 0) (some (0 : Int32)) (og (vp_in l1 2) (ob (l1.toNatClampNeg = 0) (some (0 : Int32)) (ob (l1.toNatClampNeg = 1) (some (1 : Int32)) (none)))))
noncomputable def f_S2_fetch (l1 : Int32) (v : V_S2) (u : V_St) : Option (V_St) :=
  oc (f_Fd_isSlot l1) (fun q_1 => ob (q_1 = 0) (some u) (og (vp_in l1 2) (ob (l1.toNatClampNeg = 0) (some u) (ob (l1.toNatClampNeg = 1) (oc (f_St_become u v) (fun q_20 => some q_20)) (none)))))
noncomputable def f_S3_isFilled (l1 : Int32) (v : V_S3) : Option (Int32) :=
  oc (f_Fd_isSlot l1) (fun q_1 => ob (q_1 = 0) (some (0 : Int32)) (og (vp_in l1 2) (ob (l1.toNatClampNeg = 0) (some (1 : Int32)) (ob (l1.toNatClampNeg = 1) (some (1 : Int32)) (none)))))
noncomputable def f_S3_fetch (l1 : Int32) (v : V_S3) (u : V_St) : Option (V_St) :=
  oc (f_Fd_isSlot l1) (fun q_1 => ob (q_1 = 0) (some u) (og (vp_in l1 2) (ob (l1.toNatClampNeg = 0) (oc (f_St_become u v.1) (fun q_20 => some q_20)) (ob (l1.toNatClampNeg = 1) (oc (f_St_become u v.2) (fun q_20 => some q_20)) (none)))))
