noncomputable def f_Md_in (l0 : Int64) (l2 : Int64) (l4 : Int64) : Option (Int32) :=
  ob ((lg_cmp l0 l2) < 0) (some (0 : Int32)) (ob (0 < (lg_cmp l0 l4)) (some (0 : Int32)) (some (1 : Int32)))
noncomputable def f_Md_copyState_3 (n1 : Nat) (n2 : Nat) : Nat → Int32 → Int32 → Int32 → (Nat → Int32) → (Nat → Int32) → Option ((Nat → Int32))
  | 0 => fun _ _ _ _ _ => none
  | n_3 + 1 => fun l1 l3 l4 f g =>
  ob ((2400 : Int32) ≤ l4) (some g) (og (vp_in (l1 + l4) n1) (og (vp_in (l3 + l4) n2) (nx (upd g (l3 + l4).toNatClampNeg (f (l1 + l4).toNatClampNeg)) (fun r_22 => f_Md_copyState_3 n1 n2 n_3 l1 l3 (l4 + (1 : Int32)) f r_22))))
noncomputable def f_Md_copyState (n1 : Nat) (n2 : Nat) (l1 : Int32) (l3 : Int32) (f : (Nat → Int32)) (g : (Nat → Int32)) : Option ((Nat → Int32)) :=
  f_Md_copyState_3 n1 n2 FU l1 l3 (0 : Int32) f g
noncomputable def f_Md_isPage (l0 : Int32) : Option (Int32) :=
  oc (f_Md_in l0.toInt64 (0 : Int64) (7 : Int64)) (fun q_6 => og (q_6 = 0 ∨ q_6 = 1) (some q_6))
noncomputable def f_Md_isWork (l1 : Int32) (f : (Nat → Int32)) : Option (Int32) :=
  og (vp_in (56 : Int32) 2400) (oc (f_Md_in l1.toInt64 (0 : Int64) (((f (56 : Int32).toNatClampNeg) - (1 : Int32)).toInt64)) (fun q_10 => og (q_10 = 0 ∨ q_10 = 1) (some q_10)))
noncomputable def f_Md_at (l0 : Int32) : Option (Int32) :=
  some ((67 : Int32) + ((7 : Int32) * (l0 - (1 : Int32))))
noncomputable def f_Md_takeInHand (l1 : Int32) (f : (Nat → Int32)) : Option ((Nat → Int32)) :=
  og (vp_in ((16 : Int32) + l1) 2400) (ob ((f ((16 : Int32) + l1).toNatClampNeg) = 0) (og (vp_in ((16 : Int32) + l1) 2400) (nx (upd f ((16 : Int32) + l1).toNatClampNeg (1 : Int32)) (fun r_15 => og (vp_in ((0 : Int32) + l1) 2400) (og (vp_in ((24 : Int32) + l1) 2400) (nx (upd r_15 ((24 : Int32) + l1).toNatClampNeg (r_15 ((0 : Int32) + l1).toNatClampNeg)) (fun r_26 => og (vp_in ((8 : Int32) + l1) 2400) (og (vp_in ((32 : Int32) + l1) 2400) (nx (upd r_26 ((32 : Int32) + l1).toNatClampNeg (r_26 ((8 : Int32) + l1).toNatClampNeg)) (fun r_38 => some r_38))))))))) (some f))
noncomputable def f_Md_change (l1 : Int32) (l2 : Int32) (l3 : Int32) (f : (Nat → Int32)) : Option ((Nat → Int32)) :=
  oc (f_Md_takeInHand l1 f) (fun q_2 => og (vp_in ((24 : Int32) + l1) 2400) (nx (upd q_2 ((24 : Int32) + l1).toNatClampNeg l2) (fun r_11 => og (vp_in ((32 : Int32) + l1) 2400) (nx (upd r_11 ((32 : Int32) + l1).toNatClampNeg l3) (fun r_18 => some r_18)))))
noncomputable def f_Md_lastOf_5 : Nat → Int32 → Int32 → (Nat → Int32) → Option (Int32)
  | 0 => fun _ _ _ => none
  | n_5 + 1 => fun l1 l2 f =>
  ob (l2 ≤ 0) (some l2) (oc (f_Md_at l2) (fun q_11 => og (vp_in (q_11 + (1 : Int32)) 2400) (ob ((f (q_11 + (1 : Int32)).toNatClampNeg) = l1) (some l2) (f_Md_lastOf_5 n_5 l1 (l2 + (-1 : Int32)) f))))
noncomputable def f_Md_lastOf (l1 : Int32) (f : (Nat → Int32)) : Option (Int32) :=
  og (vp_in (57 : Int32) 2400) (f_Md_lastOf_5 FU l1 (f (57 : Int32).toNatClampNeg) f)
noncomputable def f_Md_enter_13 : Int32 → Int32 → Int32 → Int32 → Int32 → Int32 → Int32 → (Nat → Int32) → Option (Int32 × (Nat → Int32)) := fun l1 l2 l3 l4 l5 l6 s0 f =>
  og (vp_in (57 : Int32) 2400) (og (vp_in (57 : Int32) 2400) (nx (upd f (57 : Int32).toNatClampNeg ((f (57 : Int32).toNatClampNeg) + (1 : Int32))) (fun r_22 => og (vp_in (57 : Int32) 2400) (oc (f_Md_at (r_22 (57 : Int32).toNatClampNeg)) (fun q_32 => og (vp_in (q_32 + (0 : Int32)) 2400) (nx (upd r_22 (q_32 + (0 : Int32)).toNatClampNeg l1) (fun r_38 => oc (f_Md_at (r_22 (57 : Int32).toNatClampNeg)) (fun q_42 => og (vp_in (q_42 + (1 : Int32)) 2400) (nx (upd r_38 (q_42 + (1 : Int32)).toNatClampNeg l2) (fun r_48 => oc (f_Md_at (r_22 (57 : Int32).toNatClampNeg)) (fun q_52 => og (vp_in (q_52 + (2 : Int32)) 2400) (nx (upd r_48 (q_52 + (2 : Int32)).toNatClampNeg s0) (fun r_59 => oc (f_Md_at (r_22 (57 : Int32).toNatClampNeg)) (fun q_63 => og (vp_in (q_63 + (3 : Int32)) 2400) (nx (upd r_59 (q_63 + (3 : Int32)).toNatClampNeg l3) (fun r_69 => oc (f_Md_at (r_22 (57 : Int32).toNatClampNeg)) (fun q_73 => og (vp_in (q_73 + (4 : Int32)) 2400) (nx (upd r_69 (q_73 + (4 : Int32)).toNatClampNeg l4) (fun r_80 => oc (f_Md_at (r_22 (57 : Int32).toNatClampNeg)) (fun q_84 => og (vp_in (q_84 + (5 : Int32)) 2400) (nx (upd r_80 (q_84 + (5 : Int32)).toNatClampNeg l5) (fun r_91 => oc (f_Md_at (r_22 (57 : Int32).toNatClampNeg)) (fun q_95 => og (vp_in (q_95 + (6 : Int32)) 2400) (nx (upd r_91 (q_95 + (6 : Int32)).toNatClampNeg l6) (fun r_103 => some ((r_22 (57 : Int32).toNatClampNeg), r_103))))))))))))))))))))))))))
noncomputable def f_Md_enter (l1 : Int32) (l2 : Int32) (l3 : Int32) (l4 : Int32) (l5 : Int32) (l6 : Int32) (f : (Nat → Int32)) : Option (Int32 × (Nat → Int32)) :=
  ob (l1 = 0) (f_Md_enter_13 l1 l2 l3 l4 l5 l6 (0 : Int32) f) (oc (f_Md_lastOf l2 f) (fun q_10 => f_Md_enter_13 l1 l2 l3 l4 l5 l6 q_10 f))
noncomputable def f_Md_goesOnWith (l1 : Int32) (f : (Nat → Int32)) : Option (Int32) :=
  oc (f_Md_lastOf l1 f) (fun q_2 => ob (q_2 ≤ 0) (some q_2) (oc (f_Md_at q_2) (fun q_12 => og (vp_in (q_12 + (0 : Int32)) 2400) (ob ((f (q_12 + (0 : Int32)).toNatClampNeg) = (2 : Int32)) (oc (f_Md_at q_2) (fun q_24 => og (vp_in (q_24 + (6 : Int32)) 2400) (some (f (q_24 + (6 : Int32)).toNatClampNeg)))) (some q_2)))))
noncomputable def f_Md_pagesOf_4 : Nat → Int32 → Int32 → Int32 → (Nat → Int32) → Option (Int32)
  | 0 => fun _ _ _ _ => none
  | n_4 + 1 => fun l1 l2 l3 f =>
  og (vp_in (57 : Int32) 2400) (ob ((f (57 : Int32).toNatClampNeg) < l3) (some l2) (oc (f_Md_at l3) (fun q_15 => og (vp_in (q_15 + (1 : Int32)) 2400) (ob ((f (q_15 + (1 : Int32)).toNatClampNeg) = l1) (oc (f_Md_at l3) (fun q_27 => og (vp_in (q_27 + (0 : Int32)) 2400) (ob ((f (q_27 + (0 : Int32)).toNatClampNeg) = (1 : Int32)) (oc (f_Md_at l3) (fun q_40 => og (vp_in (q_40 + (3 : Int32)) 2400) (f_Md_pagesOf_4 n_4 l1 (l2 ||| ((1 : Int32) <<< ((f (q_40 + (3 : Int32)).toNatClampNeg) &&& 31))) (l3 + (1 : Int32)) f))) (f_Md_pagesOf_4 n_4 l1 (l2 ||| (0 : Int32)) (l3 + (1 : Int32)) f)))) (f_Md_pagesOf_4 n_4 l1 (l2 ||| (0 : Int32)) (l3 + (1 : Int32)) f)))))
noncomputable def f_Md_pagesOf (l1 : Int32) (f : (Nat → Int32)) : Option (Int32) :=
  f_Md_pagesOf_4 FU l1 (0 : Int32) (1 : Int32) f
noncomputable def f_Md_holder_2 : Nat → Int32 → Int32 → (Nat → Int32) → Option (Int32)
  | 0 => fun _ _ _ => none
  | n_2 + 1 => fun l1 l2 f =>
  og (vp_in (56 : Int32) 2400) (ob ((f (56 : Int32).toNatClampNeg) ≤ l2) (some (-6 : Int32)) (og (vp_in ((40 : Int32) + l2) 2400) (ob ((f ((40 : Int32) + l2).toNatClampNeg) = 0) (oc (f_Md_pagesOf l2 f) (fun q_21 => ob (((q_21 >>> (l1 &&& 31)) &&& (1 : Int32)) = (1 : Int32)) (some l2) (f_Md_holder_2 n_2 l1 (l2 + (1 : Int32)) f))) (f_Md_holder_2 n_2 l1 (l2 + (1 : Int32)) f))))
noncomputable def f_Md_holder (l1 : Int32) (f : (Nat → Int32)) : Option (Int32) :=
  f_Md_holder_2 FU l1 (0 : Int32) f
noncomputable def f_Md_stepBack (l1 : Int32) (f : (Nat → Int32)) : Option ((Nat → Int32)) :=
  oc (f_Md_goesOnWith l1 f) (fun q_2 => oc (f_Md_at q_2) (fun q_8 => og (vp_in (q_8 + (0 : Int32)) 2400) (ob ((f (q_8 + (0 : Int32)).toNatClampNeg) = 0) (oc (f_Md_enter (4 : Int32) l1 (-6 : Int32) (-6 : Int32) (-6 : Int32) (-6 : Int32) f) (fun q_28 => og (vp_in ((40 : Int32) + l1) 2400) (nx (upd q_28.2 ((40 : Int32) + l1).toNatClampNeg (2 : Int32)) (fun r_38 => some r_38)))) (oc (f_Md_at q_2) (fun q_42 => og (vp_in (q_42 + (3 : Int32)) 2400) (oc (f_Md_at q_2) (fun q_51 => og (vp_in (q_51 + (4 : Int32)) 2400) (oc (f_Md_at q_2) (fun q_69 => og (vp_in (q_69 + (2 : Int32)) 2400) (oc (f_Md_enter (2 : Int32) l1 (f (q_42 + (3 : Int32)).toNatClampNeg) (-6 : Int32) (f (q_51 + (4 : Int32)).toNatClampNeg) (f (q_69 + (2 : Int32)).toNatClampNeg) f) (fun q_75 => oc (f_Md_change (f (q_42 + (3 : Int32)).toNatClampNeg) (f (q_51 + (4 : Int32)).toNatClampNeg) q_75.1 q_75.2) (fun q_86 => some q_86))))))))))))
noncomputable def f_Md_tearOn_2 : Nat → Int32 → Int32 → (Nat → Int32) → Option (Int32 × (Nat → Int32))
  | 0 => fun _ _ _ => none
  | n_2 + 1 => fun l1 l2 f =>
  og (vp_in ((40 : Int32) + l1) 2400) (ob ((f ((40 : Int32) + l1).toNatClampNeg) = 0) (oc (f_Md_stepBack l1 f) (fun q_13 => f_Md_tearOn_2 n_2 l1 (l2 + (1 : Int32)) q_13)) (some (l2, f)))
noncomputable def f_Md_tearOn (l1 : Int32) (f : (Nat → Int32)) : Option (Int32 × (Nat → Int32)) :=
  f_Md_tearOn_2 FU l1 (0 : Int32) f
noncomputable def f_Md_stepsToTear_4 : Nat → Int32 → Int32 → Int32 → (Nat → Int32) → Option (Int32)
  | 0 => fun _ _ _ _ => none
  | n_4 + 1 => fun l1 l2 l3 f =>
  og (vp_in (57 : Int32) 2400) (ob ((f (57 : Int32).toNatClampNeg) < l3) (some l2) (oc (f_Md_at l3) (fun q_15 => og (vp_in (q_15 + (1 : Int32)) 2400) (ob ((f (q_15 + (1 : Int32)).toNatClampNeg) = l1) (oc (f_Md_at l3) (fun q_27 => og (vp_in (q_27 + (0 : Int32)) 2400) (ob ((f (q_27 + (0 : Int32)).toNatClampNeg) = (1 : Int32)) (f_Md_stepsToTear_4 n_4 l1 (l2 + (1 : Int32)) (l3 + (1 : Int32)) f) (f_Md_stepsToTear_4 n_4 l1 (l2 + (0 : Int32)) (l3 + (1 : Int32)) f)))) (f_Md_stepsToTear_4 n_4 l1 (l2 + (0 : Int32)) (l3 + (1 : Int32)) f)))))
noncomputable def f_Md_stepsToTear (l1 : Int32) (f : (Nat → Int32)) : Option (Int32) :=
  f_Md_stepsToTear_4 FU l1 (1 : Int32) (1 : Int32) f
noncomputable def f_Md_saveTo (l1 : Int32) (f : (Nat → Int32)) : Option ((Nat → Int32)) :=
  og (vp_in (58 : Int32) 2400) (ob ((f (58 : Int32).toNatClampNeg) ≤ l1) (og (vp_in (58 : Int32) 2400) (nx (upd f (58 : Int32).toNatClampNeg l1) (fun r_19 => some r_19))) (og (vp_in (58 : Int32) 2400) (og (vp_in (58 : Int32) 2400) (nx (upd f (58 : Int32).toNatClampNeg (f (58 : Int32).toNatClampNeg)) (fun r_19 => some r_19)))))
noncomputable def f_Md_lose_104 (k_45 : Int32 → Int32 → (Nat → Int32) → Option ((Nat → Int32))) : Int32 → Int32 → Int32 → Int32 → (Nat → Int32) → Option ((Nat → Int32)) := fun l1 l2 l3 l4 f =>
  ob (l4 = (3 : Int32)) (og (vp_in ((40 : Int32) + l3) 2400) (nx (upd f ((40 : Int32) + l3).toNatClampNeg (1 : Int32)) (fun r_120 => k_45 l1 (l2 + (1 : Int32)) r_120))) (og (vp_in ((40 : Int32) + l3) 2400) (nx (upd f ((40 : Int32) + l3).toNatClampNeg (2 : Int32)) (fun r_120 => k_45 l1 (l2 + (1 : Int32)) r_120)))
noncomputable def f_Md_lose_45 : Nat → Int32 → Int32 → (Nat → Int32) → Option ((Nat → Int32))
  | 0 => fun _ _ _ => none
  | n_45 + 1 => fun l1 l2 f =>
  ob (l1 < l2) (some f) (oc (f_Md_at l2) (fun q_52 => og (vp_in (q_52 + (1 : Int32)) 2400) (oc (f_Md_at l2) (fun q_61 => og (vp_in (q_61 + (0 : Int32)) 2400) (ob ((f (q_61 + (0 : Int32)).toNatClampNeg) = 0) (og (vp_in (56 : Int32) 2400) (og (vp_in (56 : Int32) 2400) (nx (upd f (56 : Int32).toNatClampNeg ((f (56 : Int32).toNatClampNeg) + (1 : Int32))) (fun r_81 => og (vp_in ((40 : Int32) + (f (q_52 + (1 : Int32)).toNatClampNeg)) 2400) (nx (upd r_81 ((40 : Int32) + (f (q_52 + (1 : Int32)).toNatClampNeg)).toNatClampNeg (0 : Int32)) (fun r_88 => f_Md_lose_45 n_45 l1 (l2 + (1 : Int32)) r_88)))))) (ob ((f (q_61 + (0 : Int32)).toNatClampNeg) = (3 : Int32)) (f_Md_lose_104 (f_Md_lose_45 n_45) l1 l2 (f (q_52 + (1 : Int32)).toNatClampNeg) (f (q_61 + (0 : Int32)).toNatClampNeg) f) (ob ((f (q_61 + (0 : Int32)).toNatClampNeg) = (4 : Int32)) (f_Md_lose_104 (f_Md_lose_45 n_45) l1 l2 (f (q_52 + (1 : Int32)).toNatClampNeg) (f (q_61 + (0 : Int32)).toNatClampNeg) f) (f_Md_lose_45 n_45 l1 (l2 + (1 : Int32)) f))))))))
noncomputable def f_Md_lose (l1 : Int32) (f : (Nat → Int32)) : Option ((Nat → Int32)) :=
  og (vp_in (65 : Int32) 2400) (og (vp_in (57 : Int32) 2400) (og (vp_in (65 : Int32) 2400) (nx (upd f (65 : Int32).toNatClampNeg ((f (65 : Int32).toNatClampNeg) + ((f (57 : Int32).toNatClampNeg) - l1))) (fun r_12 => og (vp_in (57 : Int32) 2400) (nx (upd r_12 (57 : Int32).toNatClampNeg l1) (fun r_17 => og (vp_in (58 : Int32) 2400) (ob (l1 ≤ (r_17 (58 : Int32).toNatClampNeg)) (og (vp_in (58 : Int32) 2400) (nx (upd r_17 (58 : Int32).toNatClampNeg l1) (fun r_37 => og (vp_in (56 : Int32) 2400) (nx (upd r_37 (56 : Int32).toNatClampNeg (0 : Int32)) (fun r_42 => f_Md_lose_45 FU l1 (1 : Int32) r_42))))) (og (vp_in (58 : Int32) 2400) (og (vp_in (58 : Int32) 2400) (nx (upd r_17 (58 : Int32).toNatClampNeg (r_17 (58 : Int32).toNatClampNeg)) (fun r_37 => og (vp_in (56 : Int32) 2400) (nx (upd r_37 (56 : Int32).toNatClampNeg (0 : Int32)) (fun r_42 => f_Md_lose_45 FU l1 (1 : Int32) r_42)))))))))))))
noncomputable def f_Md_floodOn_12 : Nat → Int32 → Int32 → (Nat → Int32) → Option (Int32 × (Nat → Int32))
  | 0 => fun _ _ _ => none
  | n_12 + 1 => fun l1 l2 f =>
  ob ((8 : Int32) ≤ l2) (og (vp_in (58 : Int32) 2400) (oc (f_Md_lose (f (58 : Int32).toNatClampNeg) f) (fun q_36 => og (vp_in (59 : Int32) 2400) (nx (upd q_36 (59 : Int32).toNatClampNeg (1 : Int32)) (fun r_43 => og (vp_in (60 : Int32) 2400) (nx (upd r_43 (60 : Int32).toNatClampNeg (0 : Int32)) (fun r_48 => og (vp_in (63 : Int32) 2400) (og (vp_in (63 : Int32) 2400) (nx (upd r_48 (63 : Int32).toNatClampNeg ((r_48 (63 : Int32).toNatClampNeg) + (1 : Int32))) (fun r_56 => og (vp_in (66 : Int32) 2400) (nx (upd r_56 (66 : Int32).toNatClampNeg (1 : Int32)) (fun r_61 => some (l1, r_61))))))))))))) (og (vp_in ((16 : Int32) + l2) 2400) (nx (upd f ((16 : Int32) + l2).toNatClampNeg (0 : Int32)) (fun r_24 => f_Md_floodOn_12 n_12 l1 (l2 + (1 : Int32)) r_24)))
noncomputable def f_Md_floodOn (f : (Nat → Int32)) : Option (Int32 × (Nat → Int32)) :=
  og (vp_in (57 : Int32) 2400) (og (vp_in (58 : Int32) 2400) (f_Md_floodOn_12 FU ((f (57 : Int32).toNatClampNeg) - (f (58 : Int32).toNatClampNeg)) (0 : Int32) f))
noncomputable def f_Md_nextAgain_7 : Nat → Int32 → (Nat → Int32) → Option (Int32)
  | 0 => fun _ _ => none
  | n_7 + 1 => fun l1 f =>
  og (vp_in (61 : Int32) 2400) (ob ((f (61 : Int32).toNatClampNeg) < l1) (some (0 : Int32)) (oc (f_Md_at l1) (fun q_17 => og (vp_in (q_17 + (0 : Int32)) 2400) (ob ((f (q_17 + (0 : Int32)).toNatClampNeg) = (1 : Int32)) (some l1) (oc (f_Md_at l1) (fun q_29 => og (vp_in (q_29 + (0 : Int32)) 2400) (ob ((f (q_29 + (0 : Int32)).toNatClampNeg) = (2 : Int32)) (some l1) (f_Md_nextAgain_7 n_7 (l1 + (1 : Int32)) f))))))))
noncomputable def f_Md_nextAgain (f : (Nat → Int32)) : Option (Int32) :=
  og (vp_in (62 : Int32) 2400) (f_Md_nextAgain_7 FU ((f (62 : Int32).toNatClampNeg) + (1 : Int32)) f)
noncomputable def f_Md_nextBack_5 : Nat → Int32 → Int32 → (Nat → Int32) → Option (Int32)
  | 0 => fun _ _ _ => none
  | n_5 + 1 => fun l1 l2 f =>
  og (vp_in (56 : Int32) 2400) (ob ((f (56 : Int32).toNatClampNeg) ≤ l2) (some l1) (og (vp_in ((40 : Int32) + l2) 2400) (ob ((f ((40 : Int32) + l2).toNatClampNeg) = 0) (ob (l1 = (-6 : Int32)) (f_Md_nextBack_5 n_5 l2 (l2 + (1 : Int32)) f) (oc (f_Md_goesOnWith l2 f) (fun q_30 => oc (f_Md_goesOnWith l1 f) (fun q_35 => ob (q_30 ≤ q_35) (f_Md_nextBack_5 n_5 l1 (l2 + (1 : Int32)) f) (f_Md_nextBack_5 n_5 l2 (l2 + (1 : Int32)) f))))) (f_Md_nextBack_5 n_5 l1 (l2 + (1 : Int32)) f))))
noncomputable def f_Md_nextBack (f : (Nat → Int32)) : Option (Int32) :=
  f_Md_nextBack_5 FU (-6 : Int32) (0 : Int32) f
noncomputable def f_Md_isLeft (f : (Nat → Int32)) : Option (Int32) :=
  oc (f_Md_nextAgain f) (fun q_1 => ob (0 < q_1) (some (1 : Int32)) (oc (f_Md_nextBack f) (fun q_8 => ob (q_8 = (-6 : Int32)) (some (0 : Int32)) (some (1 : Int32)))))
noncomputable def f_Md_step (f : (Nat → Int32)) : Option ((Nat → Int32)) :=
  oc (f_Md_nextAgain f) (fun q_1 => ob (q_1 = 0) (oc (f_Md_nextBack f) (fun q_11 => oc (f_Md_stepBack q_11 f) (fun q_14 => some q_14))) (og (vp_in (62 : Int32) 2400) (nx (upd f (62 : Int32).toNatClampNeg q_1) (fun r_22 => oc (f_Md_at q_1) (fun q_25 => og (vp_in (q_25 + (3 : Int32)) 2400) (oc (f_Md_takeInHand (r_22 (q_25 + (3 : Int32)).toNatClampNeg) r_22) (fun q_34 => og (vp_in ((32 : Int32) + (r_22 (q_25 + (3 : Int32)).toNatClampNeg)) 2400) (ob (q_1 ≤ (q_34 ((32 : Int32) + (r_22 (q_25 + (3 : Int32)).toNatClampNeg)).toNatClampNeg)) (some q_34) (oc (f_Md_at q_1) (fun q_51 => og (vp_in (q_51 + (5 : Int32)) 2400) (oc (f_Md_change (r_22 (q_25 + (3 : Int32)).toNatClampNeg) (q_34 (q_51 + (5 : Int32)).toNatClampNeg) q_1 q_34) (fun q_58 => some q_58))))))))))))
noncomputable def f_Md_mendOn_49 : Int32 → (Nat → Int32) → Option (Int32 × (Nat → Int32)) := fun l2 f =>
  og (vp_in (64 : Int32) 2400) (og (vp_in (64 : Int32) 2400) (nx (upd f (64 : Int32).toNatClampNeg ((f (64 : Int32).toNatClampNeg) + l2)) (fun r_56 => oc (f_Md_isLeft r_56) (fun q_58 => ob (q_58 = 0) (og (vp_in (59 : Int32) 2400) (nx (upd r_56 (59 : Int32).toNatClampNeg (0 : Int32)) (fun r_68 => og (vp_in (57 : Int32) 2400) (og (vp_in (58 : Int32) 2400) (nx (upd r_68 (58 : Int32).toNatClampNeg (r_68 (57 : Int32).toNatClampNeg)) (fun r_76 => some (l2, r_76))))))) (some (l2, r_56))))))
noncomputable def f_Md_mendOn_27 : Nat → Int32 → Int32 → (Nat → Int32) → Option (Int32 × (Nat → Int32))
  | 0 => fun _ _ _ => none
  | n_27 + 1 => fun l1 l2 f =>
  ob (l1 ≤ l2) (f_Md_mendOn_49 l2 f) (oc (f_Md_isLeft f) (fun q_33 => ob (q_33 = 0) (f_Md_mendOn_49 l2 f) (oc (f_Md_step f) (fun q_40 => f_Md_mendOn_27 n_27 l1 (l2 + (1 : Int32)) q_40))))
noncomputable def f_Md_mendOn (l1 : Int32) (f : (Nat → Int32)) : Option (Int32 × (Nat → Int32)) :=
  og (vp_in (60 : Int32) 2400) (ob ((f (60 : Int32).toNatClampNeg) = 0) (og (vp_in (60 : Int32) 2400) (nx (upd f (60 : Int32).toNatClampNeg (1 : Int32)) (fun r_11 => og (vp_in (57 : Int32) 2400) (og (vp_in (61 : Int32) 2400) (nx (upd r_11 (61 : Int32).toNatClampNeg (r_11 (57 : Int32).toNatClampNeg)) (fun r_19 => og (vp_in (62 : Int32) 2400) (nx (upd r_19 (62 : Int32).toNatClampNeg (0 : Int32)) (fun r_24 => f_Md_mendOn_27 FU l1 (0 : Int32) r_24)))))))) (f_Md_mendOn_27 FU l1 (0 : Int32) f))
noncomputable def f_Md_whyNotBegin (f : (Nat → Int32)) : Option (Int32) :=
  og (vp_in (56 : Int32) 2400) (ob ((f (56 : Int32).toNatClampNeg) = (16 : Int32)) (some (-4 : Int32)) (og (vp_in (57 : Int32) 2400) (ob ((f (57 : Int32).toNatClampNeg) < (150 : Int32)) (og (vp_in (59 : Int32) 2400) (ob ((f (59 : Int32).toNatClampNeg) = (1 : Int32)) (some (-5 : Int32)) (some (0 : Int32)))) (some (-4 : Int32)))))
noncomputable def f_Md_beginOn (f : (Nat → Int32)) : Option (Int32 × (Nat → Int32)) :=
  og (vp_in (56 : Int32) 2400) (og (vp_in ((40 : Int32) + (f (56 : Int32).toNatClampNeg)) 2400) (nx (upd f ((40 : Int32) + (f (56 : Int32).toNatClampNeg)).toNatClampNeg (0 : Int32)) (fun r_11 => og (vp_in (56 : Int32) 2400) (og (vp_in (56 : Int32) 2400) (nx (upd r_11 (56 : Int32).toNatClampNeg ((r_11 (56 : Int32).toNatClampNeg) + (1 : Int32))) (fun r_19 => oc (f_Md_enter (0 : Int32) (f (56 : Int32).toNatClampNeg) (-6 : Int32) (-6 : Int32) (-6 : Int32) (-6 : Int32) r_19) (fun q_31 => some ((f (56 : Int32).toNatClampNeg), q_31.2))))))))
noncomputable def f_Md_isStopped (l1 : Int32) (f : (Nat → Int32)) : Option (Int32) :=
  og (vp_in (59 : Int32) 2400) (ob ((f (59 : Int32).toNatClampNeg) = (1 : Int32)) (some (1 : Int32)) (og (vp_in ((40 : Int32) + l1) 2400) (ob ((f ((40 : Int32) + l1).toNatClampNeg) = 0) (some (0 : Int32)) (some (1 : Int32)))))
noncomputable def f_Md_whyNotWrite (l1 : Int32) (l2 : Int32) (l3 : Int32) (f : (Nat → Int32)) : Option (Int32) :=
  oc (f_Md_isWork l1 f) (fun q_2 => ob (q_2 = 0) (some (-1 : Int32)) (oc (f_Md_isPage l2) (fun q_9 => ob (q_9 = 0) (some (-1 : Int32)) (oc (f_Md_in l3.toInt64 (0 : Int64) (999 : Int64)) (fun q_23 => ob (q_23 = 0) (some (-2 : Int32)) (og (vp_in (57 : Int32) 2400) (ob ((f (57 : Int32).toNatClampNeg) < (150 : Int32)) (oc (f_Md_holder l2 f) (fun q_47 => oc (f_Md_isStopped l1 f) (fun q_54 => ob (q_54 = 0) (ob (q_47 = (-6 : Int32)) (some (0 : Int32)) (ob (q_47 = l1) (some (0 : Int32)) (some (-5 : Int32)))) (some (-5 : Int32))))) (some (-4 : Int32)))))))))
noncomputable def f_Md_writeOn (l1 : Int32) (l2 : Int32) (l3 : Int32) (f : (Nat → Int32)) : Option (Int32 × (Nat → Int32)) :=
  oc (f_Md_takeInHand l2 f) (fun q_2 => og (vp_in ((24 : Int32) + l2) 2400) (oc (f_Md_enter (1 : Int32) l1 l2 (q_2 ((24 : Int32) + l2).toNatClampNeg) l3 (-6 : Int32) q_2) (fun q_22 => oc (f_Md_change l2 l3 q_22.1 q_22.2) (fun q_32 => some ((q_2 ((24 : Int32) + l2).toNatClampNeg), q_32)))))
noncomputable def f_Md_whyNotFinish (l1 : Int32) (f : (Nat → Int32)) : Option (Int32) :=
  oc (f_Md_isWork l1 f) (fun q_2 => ob (q_2 = 0) (some (-1 : Int32)) (og (vp_in (57 : Int32) 2400) (ob ((f (57 : Int32).toNatClampNeg) < (150 : Int32)) (oc (f_Md_isStopped l1 f) (fun q_29 => ob (q_29 = 0) (some (0 : Int32)) (some (-5 : Int32)))) (some (-4 : Int32)))))
noncomputable def f_Md_finishOn (l1 : Int32) (f : (Nat → Int32)) : Option (Int32 × (Nat → Int32)) :=
  oc (f_Md_enter (3 : Int32) l1 (-6 : Int32) (-6 : Int32) (-6 : Int32) (-6 : Int32) f) (fun q_11 => og (vp_in ((40 : Int32) + l1) 2400) (nx (upd q_11.2 ((40 : Int32) + l1).toNatClampNeg (1 : Int32)) (fun r_21 => oc (f_Md_saveTo q_11.1 r_21) (fun q_24 => some (q_11.1, q_24)))))
noncomputable def f_Md_whyNotTear (l1 : Int32) (f : (Nat → Int32)) : Option (Int32) :=
  oc (f_Md_isWork l1 f) (fun q_2 => ob (q_2 = 0) (some (-1 : Int32)) (oc (f_Md_isStopped l1 f) (fun q_14 => ob (q_14 = 0) (og (vp_in (57 : Int32) 2400) (oc (f_Md_stepsToTear l1 f) (fun q_31 => ob (((f (57 : Int32).toNatClampNeg) + q_31) ≤ (150 : Int32)) (some (0 : Int32)) (some (-4 : Int32))))) (some (-5 : Int32)))))
noncomputable def f_Md_whyNotSave (l1 : Int32) (f : (Nat → Int32)) : Option (Int32) :=
  og (vp_in (57 : Int32) 2400) (oc (f_Md_in l1.toInt64 (1 : Int64) ((f (57 : Int32).toNatClampNeg).toInt64)) (fun q_8 => ob (q_8 = 0) (some (-1 : Int32)) (og (vp_in (59 : Int32) 2400) (ob ((f (59 : Int32).toNatClampNeg) = (1 : Int32)) (some (-5 : Int32)) (some (0 : Int32))))))
noncomputable def f_Md_whyNotPutAway (l1 : Int32) (f : (Nat → Int32)) : Option (Int32) :=
  oc (f_Md_isPage l1) (fun q_1 => ob (q_1 = 0) (some (-1 : Int32)) (og (vp_in (59 : Int32) 2400) (ob ((f (59 : Int32).toNatClampNeg) = (1 : Int32)) (some (-5 : Int32)) (og (vp_in ((16 : Int32) + l1) 2400) (ob ((f ((16 : Int32) + l1).toNatClampNeg) = 0) (some (-5 : Int32)) (some (0 : Int32)))))))
noncomputable def f_Md_putAwayOn (l1 : Int32) (f : (Nat → Int32)) : Option (Int32 × (Nat → Int32)) :=
  og (vp_in ((32 : Int32) + l1) 2400) (oc (f_Md_saveTo (f ((32 : Int32) + l1).toNatClampNeg) f) (fun q_7 => og (vp_in ((24 : Int32) + l1) 2400) (og (vp_in ((0 : Int32) + l1) 2400) (nx (upd q_7 ((0 : Int32) + l1).toNatClampNeg (q_7 ((24 : Int32) + l1).toNatClampNeg)) (fun r_20 => og (vp_in ((32 : Int32) + l1) 2400) (og (vp_in ((8 : Int32) + l1) 2400) (nx (upd r_20 ((8 : Int32) + l1).toNatClampNeg (r_20 ((32 : Int32) + l1).toNatClampNeg)) (fun r_32 => og (vp_in (58 : Int32) 2400) (some ((r_32 (58 : Int32).toNatClampNeg), r_32))))))))))
noncomputable def f_Md_valueOf (l1 : Int32) (f : (Nat → Int32)) : Option (Int32) :=
  og (vp_in ((16 : Int32) + l1) 2400) (ob ((f ((16 : Int32) + l1).toNatClampNeg) = (1 : Int32)) (og (vp_in ((24 : Int32) + l1) 2400) (some (f ((24 : Int32) + l1).toNatClampNeg))) (og (vp_in ((0 : Int32) + l1) 2400) (some (f ((0 : Int32) + l1).toNatClampNeg))))
