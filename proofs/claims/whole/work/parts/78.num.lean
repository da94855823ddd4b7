/-! ===== PURE 29: a whole number ===== -/
abbrev oF (v : V_Or) (p : Nat) : V_Or := (v.1, v.2.1, v.2.2.1, v.2.2.2.1, v.2.2.2.2.1, nI p, nI p)
theorem num {P : V_Pd} {M : V_Md} {m i : Nat} {v : V_Or} (h : PD P M.2.2.2.2.2.2.1 M.2.2.2.2.2.2.2.1 m) (hm : m ≤ 80) (hv : v.2.2.2.2.2.2 = -6) (hi : i < 2147483648) :
    (¬ dT M.2.2.2.2.2.2.1 m i → f_Or_readNumber (oP v i) P = some (0, oF v i) ∧ f_Md_number (mP M i) = some (-6, mP M i)) ∧
    (dT M.2.2.2.2.2.2.1 m i → ∃ l' i', i < i' ∧ i' ≤ m ∧ l' ≤ 999 ∧ f_Or_readNumber (oP v i) P = some (nI l', oP v i') ∧ f_Md_number (mP M i) = ob (dT M.2.2.2.2.2.2.1 m i') (some (-6, mP M i')) (some (nI l', mP M i'))) := by
  obtain ⟨c, e, x1, x2, x3, x4⟩ := at_dig (i := i) h hm hi
  have e48 : (48 : Int32).toInt64 = 48 := by decide
  have e57 : (57 : Int32).toInt64 = 57 := by decide
  have hFU : FU = 19999 + 1 := rfl
  constructor
  · intro nd
    obtain ⟨y1, y2⟩ := x4 nd
    constructor
    · unfold f_Or_readNumber
      rw [x1, oc_s, y1, oc_s, ob_t (show v.2.2.2.2.2.2 = (-6 : Int32) from hv), ob_rfl]
      unfold f_Or_readNumber_31
      exact ob_f (m6_ne i hi)
    · unfold f_Md_number f_Md_taken
      rw [x2, oc_s, e48, e57, y2, oc_s, ob_rfl, oc_s, hFU, e_Md_number_9, ob_rfl]
  · intro nd
    obtain ⟨rfl, ⟨d, d1, rfl⟩, y1, y2⟩ := x3 nd
    have him := nd.1
    have ed : nI (48 + d) - (48 : Int32) = nI d := by
      have e : (48 : Int32) = nI 48 := rfl
      rw [e, i_sub (by omega)]
      congr 1
      omega
    have ei : nI i + (1 : Int32) = nI (i + 1) := by rw [kk1, i_add]
    obtain ⟨l', i', z1, z2, z3, z4, z5⟩ := num_loop (v := v) h hm (m - (i + 1)) (i + 1) d 1 FU FU (by omega) (by unfold FU; omega) (by unfold FU; omega) (by omega) (by omega) (by omega)
    refine ⟨l', i', by omega, z2, z3, ?_, ?_⟩
    · unfold f_Or_readNumber
      rw [x1, oc_s, y1, oc_s, ob_t (show v.2.2.2.2.2.2 = (-6 : Int32) from hv), ob_f d10]
      unfold f_Or_readNumber_31
      rw [ob_t (show v.2.2.2.2.2.2 = (-6 : Int32) from hv), x1, oc_s, ed]
      show f_Or_readNumber_66 FU (nI d) (1 : Int32) (v.1, v.2.1, v.2.2.1, v.2.2.2.1, v.2.2.2.2.1, nI i + 1, v.2.2.2.2.2.2) P = _
      rw [ei, kk1]
      exact z4
    · unfold f_Md_number f_Md_taken
      rw [x2, oc_s, e48, e57, y2, oc_s, ob_f d10, oc_s, ed]
      show f_Md_number_9 FU (nI d) (M.1, M.2.1, M.2.2.1, M.2.2.2.1, M.2.2.2.2.1, M.2.2.2.2.2.1, M.2.2.2.2.2.2.1, M.2.2.2.2.2.2.2.1, nI i + 1) = _
      rw [ei]
      exact z5
