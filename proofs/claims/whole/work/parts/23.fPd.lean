noncomputable def f_Pd_length (v : V_Pd) : Option (Int32) :=
  some v.2
noncomputable def f_Pd_hasRoomFor (l1 : Int32) (v : V_Pd) : Option (Int32) :=
  ob ((80 : Int32) < (v.2 + l1)) (some (0 : Int32)) (some (1 : Int32))
noncomputable def f_Pd_append_5 : Nat → Int64 → Int32 → V_Pd → Option (V_Pd)
  | 0 => fun _ _ _ => none
  | n_5 + 1 => fun l1 l4 v =>
  ob (l4 < 0) (some v) (ob ((80 : Int32) ≤ v.2) (some v) (og (vp_in v.2 80) (nx (upd v.1 v.2.toNatClampNeg (vp_nar .char (((((l1.toUInt64 >>> (((8 : Int32) * l4).toInt64.toUInt64 &&& Int64.toUInt64 63)).toInt64 &&& (255 : Int64)).toInt32).toUInt32 % 65536).toInt32))) (fun r_40 => f_Pd_append_5 n_5 l1 (l4 + (-1 : Int32)) (r_40, (v.2 + (1 : Int32)))))))
noncomputable def f_Pd_append (l1 : Int64) (l3 : Int32) (v : V_Pd) : Option (V_Pd) :=
  f_Pd_append_5 FU l1 (l3 - (1 : Int32)) v
noncomputable def f_Pd_empty (v : V_Pd) : Option (V_Pd) :=
  some (v.1, (0 : Int32))
noncomputable def f_Pd_at (l1 : Int32) (v : V_Pd) : Option (Int32) :=
  ob (l1 < 0) (some (0 : Int32)) (ob (v.2 ≤ l1) (some (0 : Int32)) (og (vp_in l1 80) (some (v.1 l1.toNatClampNeg))))
