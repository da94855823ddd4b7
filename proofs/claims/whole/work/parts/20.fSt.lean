noncomputable def f_St_become (v : V_St) (u : V_St) : Option (V_St) :=
  oc (f_Pg_become v.1 u.1) (fun q_8 => oc (f_Dy_become v.2.1 u.2.1) (fun q_19 => oc (f_Wk_become v.2.2.1 u.2.2.1) (fun q_30 => og (u.2.2.2.1 = 0 ∨ u.2.2.2.1 = 1) (og (u.2.2.2.2.1 = 0 ∨ u.2.2.2.2.1 = 1) (some (q_8, q_19, q_30, u.2.2.2.1, u.2.2.2.2.1, u.2.2.2.2.2.1, u.2.2.2.2.2.2.1, u.2.2.2.2.2.2.2.1, u.2.2.2.2.2.2.2.2))))))
noncomputable def f_St_enter (l1 : Int32) (l2 : Int32) (v : V_St) : Option (Int32 × V_St) :=
  oc (f_Wk_lastOf l2 v.2.2.1) (fun q_11 => oc (f_Dy_add l1 l2 q_11 v.2.1) (fun q_14 => oc (f_Wk_take q_14.1 l1 l2 (-6 : Int32) (-6 : Int32) v.2.2.1) (fun q_29 => some (q_14.1, (v.1, q_14.2, q_29, v.2.2.2.1, v.2.2.2.2.1, v.2.2.2.2.2.1, v.2.2.2.2.2.2.1, v.2.2.2.2.2.2.2.1, v.2.2.2.2.2.2.2.2)))))
noncomputable def f_St_enterOnPage (l1 : Int32) (l2 : Int32) (l3 : Int32) (l4 : Int32) (l5 : Int32) (l6 : Int32) (v : V_St) : Option (V_St) :=
  oc (f_Wk_lastOf l2 v.2.2.1) (fun q_11 => oc (f_Dy_add l1 l2 q_11 v.2.1) (fun q_14 => oc (f_Dy_tellPage q_14.1 l3 l4 l5 l6 q_14.2) (fun q_32 => oc (f_Wk_take q_14.1 l1 l2 l3 l6 v.2.2.1) (fun q_46 => oc (f_Pg_change l3 l5 q_14.1 v.1) (fun q_58 => some (q_58, q_32, q_46, v.2.2.2.1, v.2.2.2.2.1, v.2.2.2.2.2.1, v.2.2.2.2.2.2.1, v.2.2.2.2.2.2.2.1, v.2.2.2.2.2.2.2.2))))))
noncomputable def f_St_stepBack (l1 : Int32) (v : V_St) : Option (V_St) :=
  oc (f_Wk_goOnOf l1 v.2.2.1) (fun q_5 => oc (f_Dy_kindOf q_5 v.2.1) (fun q_14 => ob (q_14 = (1 : Int32)) (oc (f_Dy_pageOf q_5 v.2.1) (fun q_29 => oc (f_Dy_beforeOf q_5 v.2.1) (fun q_39 => oc (f_Dy_earlierOf q_5 v.2.1) (fun q_47 => oc (f_St_enterOnPage (2 : Int32) l1 q_29 (-6 : Int32) q_39 q_47 v) (fun q_50 => some q_50))))) (oc (f_St_enter (4 : Int32) l1 v) (fun q_59 => some q_59.2))))
noncomputable def f_St_stepsToTear_11 : Nat → Int32 → Int32 → V_St → Option (Int32)
  | 0 => fun _ _ _ => none
  | n_11 + 1 => fun l2 l3 v =>
  ob ((300 : Int32) < l3) (some l3) (oc (f_Dy_kindOf l2 v.2.1) (fun q_23 => ob (q_23 = (1 : Int32)) (oc (f_Dy_earlierOf l2 v.2.1) (fun q_35 => f_St_stepsToTear_11 n_11 q_35 (l3 + (1 : Int32)) v)) (some l3)))
noncomputable def f_St_stepsToTear (l1 : Int32) (v : V_St) : Option (Int32) :=
  oc (f_Wk_goOnOf l1 v.2.2.1) (fun q_5 => f_St_stepsToTear_11 FU q_5 (1 : Int32) v)
noncomputable def f_St_loseEntries (l1 : Int32) (v : V_St) : Option (V_St) :=
  oc (f_Dy_lose l1 v.2.1) (fun q_5 => oc (f_Wk_readAnew v.2.2.1 q_5) (fun q_26 => some (v.1, q_5, q_26, v.2.2.2.1, v.2.2.2.2.1, v.2.2.2.2.2.1, v.2.2.2.2.2.2.1, v.2.2.2.2.2.2.2.1, (v.2.2.2.2.2.2.2.2 + l1))))
noncomputable def f_St_findAgain_0 : Nat → V_St → Option (Int32 × V_St)
  | 0 => fun _ => none
  | n_0 + 1 => fun v =>
  ob (v.2.1.2.2.2.2.2.2.2.2 < v.2.2.2.2.2.1) (ob (v.2.1.2.2.2.2.2.2.2.2 < v.2.2.2.2.2.1) (some ((0 : Int32), v)) (some ((1 : Int32), v))) (oc (f_Dy_kindOf v.2.2.2.2.2.1 v.2.1) (fun q_22 => oc (f_Fd_isChange q_22) (fun q_25 => ob (q_25 = 0) (f_St_findAgain_0 n_0 (v.1, v.2.1, v.2.2.1, v.2.2.2.1, v.2.2.2.2.1, (v.2.2.2.2.2.1 + (1 : Int32)), v.2.2.2.2.2.2.1, v.2.2.2.2.2.2.2.1, v.2.2.2.2.2.2.2.2)) (ob (v.2.1.2.2.2.2.2.2.2.2 < v.2.2.2.2.2.1) (some ((0 : Int32), v)) (some ((1 : Int32), v))))))
noncomputable def f_St_findAgain (v : V_St) : Option (Int32 × V_St) :=
  f_St_findAgain_0 FU v
noncomputable def f_St_isAnythingLeft (v : V_St) : Option (Int32 × V_St) :=
  oc (f_St_findAgain v) (fun q_1 => ob (q_1.1 = 0) (oc (f_Wk_nextToTakeBack q_1.2.2.2.1) (fun q_11 => ob (q_11 = (-6 : Int32)) (some ((0 : Int32), q_1.2)) (some ((1 : Int32), q_1.2)))) (some ((1 : Int32), q_1.2)))
noncomputable def f_St_doAgain (l1 : Int32) (v : V_St) : Option (V_St) :=
  oc (f_Dy_pageOf l1 v.2.1) (fun q_5 => oc (f_Pg_takeIntoHand q_5 v.1) (fun q_14 => oc (f_Pg_markInHand q_5 q_14) (fun q_22 => ob (l1 ≤ q_22) (some (q_14, v.2.1, v.2.2.1, v.2.2.2.1, v.2.2.2.2.1, v.2.2.2.2.2.1, v.2.2.2.2.2.2.1, v.2.2.2.2.2.2.2.1, v.2.2.2.2.2.2.2.2)) (oc (f_Dy_thenOf l1 v.2.1) (fun q_39 => oc (f_Pg_change q_5 q_39 l1 q_14) (fun q_43 => some (q_43, v.2.1, v.2.2.1, v.2.2.2.1, v.2.2.2.2.1, v.2.2.2.2.2.1, v.2.2.2.2.2.2.1, v.2.2.2.2.2.2.2.1, v.2.2.2.2.2.2.2.2)))))))
noncomputable def f_St_isEndSaved (l1 : Int32) (v : V_St) : Option (Int32) :=
  oc (f_Wk_isOpen l1 v.2.2.1) (fun q_5 => ob (q_5 = 0) (oc (f_Wk_lastOf l1 v.2.2.1) (fun q_16 => ob (v.2.1.2.2.2.2.2.2.2.2 < q_16) (some (0 : Int32)) (some (1 : Int32)))) (some (0 : Int32)))
noncomputable def f_St_isNeeded (l1 : Int32) (v : V_St) : Option (Int32) :=
  oc (f_Dy_kindOf l1 v.2.1) (fun q_5 => oc (f_Fd_isChange q_5) (fun q_10 => ob (q_10 = 0) (ob (q_5 = 0) (oc (f_Dy_workOf l1 v.2.1) (fun q_51 => oc (f_St_isEndSaved q_51 v) (fun q_54 => ob (q_54 = 0) (some (1 : Int32)) (some (0 : Int32))))) (some (0 : Int32))) (oc (f_Dy_pageOf l1 v.2.1) (fun q_26 => oc (f_Pg_markOnShelf q_26 v.1) (fun q_29 => ob (l1 ≤ q_29) (some (0 : Int32)) (some (1 : Int32)))))))
noncomputable def f_St_beginWork (v : V_St) : Option (Int32 × V_St) :=
  oc (f_Wk_isFull v.2.2.1) (fun q_4 => ob (q_4 = 0) (oc (f_Dy_isFull v.2.1) (fun q_14 => ob (q_14 = 0) (ob (v.2.2.2.1 = 0) (oc (f_St_enter (0 : Int32) v.2.2.1.2.2.2.2.2 v) (fun q_44 => some (v.2.2.1.2.2.2.2.2, q_44.2))) (some ((-5 : Int32), v))) (some ((-4 : Int32), v)))) (some ((-4 : Int32), v)))
noncomputable def f_St_writePage_91 : Int32 → Int32 → Int32 → V_St → Option (Int32 × V_St) := fun l1 l2 l3 v =>
  oc (f_Pg_takeIntoHand l2 v.1) (fun q_96 => oc (f_Pg_valueInHand l2 q_96) (fun q_104 => oc (f_St_enterOnPage (1 : Int32) l1 l2 q_104 l3 (-6 : Int32) (q_96, v.2.1, v.2.2.1, v.2.2.2.1, v.2.2.2.2.1, v.2.2.2.2.2.1, v.2.2.2.2.2.2.1, v.2.2.2.2.2.2.2.1, v.2.2.2.2.2.2.2.2)) (fun q_118 => some (q_104, q_118))))
noncomputable def f_St_writePage (l1 : Int32) (l2 : Int32) (l3 : Int32) (v : V_St) : Option (Int32 × V_St) :=
  oc (f_Wk_has l1 v.2.2.1) (fun q_5 => ob (q_5 = 0) (some ((-1 : Int32), v)) (oc (f_Fd_isPage l2) (fun q_12 => ob (q_12 = 0) (some ((-1 : Int32), v)) (ob (l3 < 0) (some ((-2 : Int32), v)) (ob (l3 ≤ (999 : Int32)) (oc (f_Dy_isFull v.2.1) (fun q_38 => ob (q_38 = 0) (oc (f_Wk_holderOf l2 v.2.2.1) (fun q_52 => ob (v.2.2.2.1 = 0) (oc (f_Wk_isOpen l1 v.2.2.1) (fun q_69 => ob (q_69 = 0) (some ((-5 : Int32), v)) (ob (q_52 = (-6 : Int32)) (f_St_writePage_91 l1 l2 l3 v) (ob (q_52 = l1) (f_St_writePage_91 l1 l2 l3 v) (some ((-5 : Int32), v)))))) (some ((-5 : Int32), v)))) (some ((-4 : Int32), v)))) (some ((-2 : Int32), v)))))))
noncomputable def f_St_finishWork (l1 : Int32) (v : V_St) : Option (Int32 × V_St) :=
  oc (f_Wk_has l1 v.2.2.1) (fun q_5 => ob (q_5 = 0) (some ((-1 : Int32), v)) (oc (f_Dy_isFull v.2.1) (fun q_17 => ob (q_17 = 0) (ob (v.2.2.2.1 = 0) (oc (f_Wk_isOpen l1 v.2.2.1) (fun q_38 => ob (q_38 = 0) (some ((-5 : Int32), v)) (oc (f_St_enter (3 : Int32) l1 v) (fun q_50 => oc (f_Dy_saveUpTo q_50.1 q_50.2.2.1) (fun q_59 => some (q_50.1, (q_50.2.1, q_59, q_50.2.2.2.1, q_50.2.2.2.2.1, q_50.2.2.2.2.2.1, q_50.2.2.2.2.2.2.1, q_50.2.2.2.2.2.2.2.1, q_50.2.2.2.2.2.2.2.2.1, q_50.2.2.2.2.2.2.2.2.2))))))) (some ((-5 : Int32), v))) (some ((-4 : Int32), v)))))
noncomputable def f_St_tearWork_60 : Nat → Int32 → Int32 → Int32 → V_St → Option (Int32 × V_St)
  | 0 => fun _ _ _ _ => none
  | n_60 + 1 => fun l1 l2 l3 v =>
  ob (l2 ≤ l3) (some (l2, v)) (oc (f_St_stepBack l1 v) (fun q_67 => f_St_tearWork_60 n_60 l1 l2 (l3 + (1 : Int32)) q_67))
noncomputable def f_St_tearWork (l1 : Int32) (v : V_St) : Option (Int32 × V_St) :=
  oc (f_Wk_has l1 v.2.2.1) (fun q_5 => ob (q_5 = 0) (some ((-1 : Int32), v)) (ob (v.2.2.2.1 = 0) (oc (f_Wk_isOpen l1 v.2.2.1) (fun q_25 => ob (q_25 = 0) (some ((-5 : Int32), v)) (oc (f_St_stepsToTear l1 v) (fun q_36 => ob ((v.2.1.2.2.2.2.2.2.2.1 + q_36) ≤ (150 : Int32)) (f_St_tearWork_60 FU l1 q_36 (0 : Int32) v) (some ((-4 : Int32), v)))))) (some ((-5 : Int32), v))))
noncomputable def f_St_saveEntries (l1 : Int32) (v : V_St) : Option (Int32 × V_St) :=
  oc (f_Dy_has l1 v.2.1) (fun q_5 => ob (q_5 = 0) (some ((-1 : Int32), v)) (ob (v.2.2.2.1 = 0) (oc (f_Dy_saveUpTo l1 v.2.1) (fun q_28 => some (q_28.2.2.2.2.2.2.2.2, (v.1, q_28, v.2.2.1, v.2.2.2.1, v.2.2.2.2.1, v.2.2.2.2.2.1, v.2.2.2.2.2.2.1, v.2.2.2.2.2.2.2.1, v.2.2.2.2.2.2.2.2)))) (some ((-5 : Int32), v))))
noncomputable def f_St_shelvePage (l1 : Int32) (v : V_St) : Option (Int32 × V_St) :=
  oc (f_Fd_isPage l1) (fun q_1 => ob (q_1 = 0) (some ((-1 : Int32), v)) (ob (v.2.2.2.1 = 0) (oc (f_Pg_isInHand l1 v.1) (fun q_21 => ob (q_21 = 0) (some ((-5 : Int32), v)) (oc (f_Pg_markInHand l1 v.1) (fun q_39 => oc (f_Dy_saveUpTo q_39 v.2.1) (fun q_42 => oc (f_Pg_shelve l1 v.1) (fun q_50 => some (q_42.2.2.2.2.2.2.2.2, (q_50, q_42, v.2.2.1, v.2.2.2.1, v.2.2.2.2.1, v.2.2.2.2.2.1, v.2.2.2.2.2.2.1, v.2.2.2.2.2.2.2.1, v.2.2.2.2.2.2.2.2)))))))) (some ((-5 : Int32), v))))
noncomputable def f_St_takeFlood (v : V_St) : Option (Int32 × V_St) :=
  oc (f_Pg_leaveHand v.1) (fun q_30 => oc (f_St_loseEntries (v.2.1.2.2.2.2.2.2.2.1 - v.2.1.2.2.2.2.2.2.2.2) (q_30, v.2.1, v.2.2.1, (1 : Int32), (0 : Int32), (1 : Int32), (v.2.2.2.2.2.2.1 + (1 : Int32)), v.2.2.2.2.2.2.2.1, v.2.2.2.2.2.2.2.2)) (fun q_50 => some ((v.2.1.2.2.2.2.2.2.2.1 - v.2.1.2.2.2.2.2.2.2.2), q_50)))
noncomputable def f_St_blurEntries (l1 : Int32) (v : V_St) : Option (Int32 × V_St) :=
  ob (l1 < (1 : Int32)) (some ((-2 : Int32), v)) (ob (l1 ≤ (5 : Int32)) (ob (v.2.2.2.1 = 0) (some ((-5 : Int32), v)) (ob (v.2.2.2.2.1 = 0) (ob ((v.2.1.2.2.2.2.2.2.2.1 - l1) < 0) (some ((-5 : Int32), v)) (oc (f_Pg_highestShelfMark v.1) (fun q_48 => ob (q_48 ≤ (v.2.1.2.2.2.2.2.2.2.1 - l1)) (oc (f_St_loseEntries l1 v) (fun q_60 => some ((v.2.1.2.2.2.2.2.2.2.1 - l1), q_60))) (some ((-5 : Int32), v))))) (some ((-5 : Int32), v)))) (some ((-2 : Int32), v)))
noncomputable def f_St_mendSteps_89 : Int32 → V_St → Option (Int32 × V_St) := fun l2 v =>
  oc (f_St_isAnythingLeft (v.1, v.2.1, v.2.2.1, v.2.2.2.1, v.2.2.2.2.1, v.2.2.2.2.2.1, v.2.2.2.2.2.2.1, (v.2.2.2.2.2.2.2.1 + l2), v.2.2.2.2.2.2.2.2)) (fun q_100 => ob (q_100.1 = 0) (oc (f_Dy_saveUpTo q_100.2.2.1.2.2.2.2.2.2.2.1 q_100.2.2.1) (fun q_122 => some (l2, (q_100.2.1, q_122, q_100.2.2.2.1, (0 : Int32), q_100.2.2.2.2.2.1, q_100.2.2.2.2.2.2.1, q_100.2.2.2.2.2.2.2.1, q_100.2.2.2.2.2.2.2.2.1, q_100.2.2.2.2.2.2.2.2.2)))) (some (l2, q_100.2)))
noncomputable def f_St_mendSteps_32 : Nat → Int32 → Int32 → V_St → Option (Int32 × V_St)
  | 0 => fun _ _ _ => none
  | n_32 + 1 => fun l1 l2 v =>
  ob (l1 ≤ l2) (f_St_mendSteps_89 l2 v) (oc (f_St_isAnythingLeft v) (fun q_38 => ob (q_38.1 = 0) (f_St_mendSteps_89 l2 q_38.2) (oc (f_St_findAgain q_38.2) (fun q_45 => ob (q_45.1 = 0) (oc (f_Wk_nextToTakeBack q_45.2.2.2.1) (fun q_77 => oc (f_St_stepBack q_77 q_45.2) (fun q_80 => f_St_mendSteps_32 n_32 l1 (l2 + (1 : Int32)) q_80))) (oc (f_St_doAgain q_45.2.2.2.2.2.2.1 q_45.2) (fun q_56 => f_St_mendSteps_32 n_32 l1 (l2 + (1 : Int32)) (q_56.1, q_56.2.1, q_56.2.2.1, q_56.2.2.2.1, q_56.2.2.2.2.1, (q_56.2.2.2.2.2.1 + (1 : Int32)), q_56.2.2.2.2.2.2.1, q_56.2.2.2.2.2.2.2.1, q_56.2.2.2.2.2.2.2.2)))))))
noncomputable def f_St_mendSteps (l1 : Int32) (v : V_St) : Option (Int32 × V_St) :=
  ob (l1 < (1 : Int32)) (some ((-2 : Int32), v)) (ob (l1 ≤ (999 : Int32)) (ob (v.2.2.2.1 = 0) (some ((-5 : Int32), v)) (f_St_mendSteps_32 FU l1 (0 : Int32) (v.1, v.2.1, v.2.2.1, v.2.2.2.1, (1 : Int32), v.2.2.2.2.2.1, v.2.2.2.2.2.2.1, v.2.2.2.2.2.2.2.1, v.2.2.2.2.2.2.2.2))) (some ((-2 : Int32), v)))
noncomputable def f_St_tearAllOpen_36 (k_2 : Int32 → V_St → Option (V_St)) : Nat → Int32 → Int32 → Int32 → V_St → Option (V_St)
  | 0 => fun _ _ _ _ => none
  | n_36 + 1 => fun l1 l2 l3 v =>
  ob (l2 ≤ l3) (k_2 (l1 + (1 : Int32)) v) (oc (f_St_stepBack l1 v) (fun q_43 => f_St_tearAllOpen_36 k_2 n_36 l1 l2 (l3 + (1 : Int32)) q_43))
noncomputable def f_St_tearAllOpen_2 : Nat → Int32 → V_St → Option (V_St)
  | 0 => fun _ _ => none
  | n_2 + 1 => fun l1 v =>
  ob (v.2.2.1.2.2.2.2.2 ≤ l1) (some v) (oc (f_Wk_isOpen l1 v.2.2.1) (fun q_18 => ob (q_18 = 0) (f_St_tearAllOpen_36 (f_St_tearAllOpen_2 n_2) FU l1 (0 : Int32) (0 : Int32) v) (oc (f_St_stepsToTear l1 v) (fun q_26 => f_St_tearAllOpen_36 (f_St_tearAllOpen_2 n_2) FU l1 q_26 (0 : Int32) v))))
noncomputable def f_St_tearAllOpen (v : V_St) : Option (V_St) :=
  f_St_tearAllOpen_2 FU (0 : Int32) v
noncomputable def f_St_lowestNeeded_2 : Nat → Int32 → V_St → Option (Int32)
  | 0 => fun _ _ => none
  | n_2 + 1 => fun l1 v =>
  ob (v.2.1.2.2.2.2.2.2.2.2 < l1) (some (-6 : Int32)) (oc (f_St_isNeeded l1 v) (fun q_15 => ob (q_15 = 0) (f_St_lowestNeeded_2 n_2 (l1 + (1 : Int32)) v) (some l1)))
noncomputable def f_St_lowestNeeded (v : V_St) : Option (Int32) :=
  f_St_lowestNeeded_2 FU (1 : Int32) v
noncomputable def f_St_aboutPage (l1 : Int32) (l2 : Int32) (v : V_St) : Option (Int32) :=
  oc (f_Fd_isPage l1) (fun q_1 => ob (q_1 = 0) (some (-1 : Int32)) (ob (l2 = (0 : Int32)) (oc (f_Pg_valueOnShelf l1 v.1) (fun q_57 => some q_57)) (ob (l2 = (1 : Int32)) (oc (f_Pg_markOnShelf l1 v.1) (fun q_66 => some q_66)) (ob (l2 = (2 : Int32)) (oc (f_Pg_isInHand l1 v.1) (fun q_75 => oc (f_Fd_asNumber q_75) (fun q_78 => some q_78))) (ob (l2 = (3 : Int32)) (oc (f_Pg_valueInHand l1 v.1) (fun q_87 => some q_87)) (ob (l2 = (4 : Int32)) (oc (f_Pg_markInHand l1 v.1) (fun q_96 => some q_96)) (ob (l2 = (5 : Int32)) (oc (f_Pg_isDirty l1 v.1) (fun q_105 => oc (f_Fd_asNumber q_105) (fun q_108 => some q_108))) (ob (l2 = (6 : Int32)) (ob (v.2.2.2.1 = 0) (oc (f_Wk_holderOf l1 v.2.2.1) (fun q_129 => some q_129)) (some (-6 : Int32))) (some (-2 : Int32))))))))))
noncomputable def f_St_number (l1 : Int32) (v : V_St) : Option (Int32) :=
  ob (l1 = (0 : Int32)) (some v.2.2.1.2.2.2.2.2) (ob (l1 = (1 : Int32)) (some v.2.1.2.2.2.2.2.2.2.1) (ob (l1 = (2 : Int32)) (some v.2.1.2.2.2.2.2.2.2.2) (ob (l1 = (3 : Int32)) (oc (f_Fd_asNumber v.2.2.2.1) (fun q_80 => some q_80)) (ob (l1 = (4 : Int32)) (some v.2.2.2.2.2.2.1) (ob (l1 = (5 : Int32)) (some v.2.2.2.2.2.2.2.1) (ob (l1 = (6 : Int32)) (some v.2.2.2.2.2.2.2.2) (ob (l1 = (7 : Int32)) (oc (f_Pg_dirtySet v.1) (fun q_103 => some q_103)) (ob (l1 = (8 : Int32)) (oc (f_Wk_openSet v.2.2.1) (fun q_111 => some q_111)) (some (-2 : Int32))))))))))
