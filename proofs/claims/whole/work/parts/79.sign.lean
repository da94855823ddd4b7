/-! ===== PURE 30: a sign that must stand, a page ===== -/
theorem r_inE {e : Int32} {q : Nat} (hq : q < 2147483648) : (e = nI q → f_Md_in e.toInt64 (nI q).toInt64 (nI q).toInt64 = some 1) ∧ (¬ e = nI q → f_Md_in e.toInt64 (nI q).toInt64 (nI q).toInt64 = some 0) := by
  have e1 : ((nI q).toInt64).toInt = (q : Int) := by rw [Int32.toInt_toInt64, i_tI (by omega)]
  constructor
  · rintro rfl
    refine r_in ?_
    rw [e1, i_tI (by omega)]
    omega
  · intro h
    refine r_inN ?_
    rw [e1]
    rintro ⟨a, b⟩
    exact h (Int32.toInt_inj.mp (by rw [i_tI (by omega)]; omega))
theorem expe {P : V_Pd} {M : V_Md} {m i q : Nat} {v : V_Or} (h : PD P M.2.2.2.2.2.2.1 M.2.2.2.2.2.2.2.1 m) (hm : m ≤ 80) (hv : v.2.2.2.2.2.2 = -6) (hi : i < 2147483648) (hq1 : 1 ≤ q) (hq : q < 2147483648) :
    (i < m ∧ M.2.2.2.2.2.2.1 i = nI q → f_Or_expect (nI q) (oP v i) P = some (oP v (i + 1)) ∧ f_Md_taken (nI q) (nI q) (mP M i) = some (0, mP M (i + 1))) ∧
    (¬ (i < m ∧ M.2.2.2.2.2.2.1 i = nI q) → f_Or_expect (nI q) (oP v i) P = some (oF v i) ∧ f_Md_taken (nI q) (nI q) (mP M i) = some (-6, mP M i)) := by
  obtain ⟨a1, a2⟩ := p_at h hm hi
  obtain ⟨b1, b2⟩ := m_sign (M := mP M i) h.2.1 rfl hm hi
  have ei : nI i + (1 : Int32) = nI (i + 1) := by rw [kk1, i_add]
  constructor
  · rintro ⟨z1, z2⟩
    constructor
    · unfold f_Or_expect
      rw [ob_t (show v.2.2.2.2.2.2 = (-6 : Int32) from hv), a1 z1, oc_s, ob_t z2, ei]
    · unfold f_Md_taken
      rw [b1 z1, oc_s]
      show oc (f_Md_in (M.2.2.2.2.2.2.1 i).toInt64 (nI q).toInt64 (nI q).toInt64) (fun q_11 => ob (q_11 = 0) (some ((-6 : Int32), mP M i)) (some ((M.2.2.2.2.2.2.1 i - nI q), (M.1, M.2.1, M.2.2.1, M.2.2.2.1, M.2.2.2.2.1, M.2.2.2.2.2.1, M.2.2.2.2.2.2.1, M.2.2.2.2.2.2.2.1, nI i + 1)))) = _
      rw [(r_inE hq).1 z2, oc_s, ob_f d10, z2, i_sub (Nat.le_refl _), ei, Nat.sub_self]
      rfl
  · intro z
    constructor
    · unfold f_Or_expect
      rw [ob_t (show v.2.2.2.2.2.2 = (-6 : Int32) from hv)]
      by_cases z1 : i < m
      · rw [a1 z1, oc_s, ob_f (fun z2 => z ⟨z1, z2⟩)]
      · rw [a2 (by omega), oc_s, k0, ob_f (fun z2 => by have := i_inj (a := 0) (b := q) (by omega) hq z2; omega)]
    · unfold f_Md_taken
      by_cases z1 : i < m
      · rw [b1 z1, oc_s]
        show oc (f_Md_in (M.2.2.2.2.2.2.1 i).toInt64 (nI q).toInt64 (nI q).toInt64) _ = _
        rw [(r_inE hq).2 (fun z2 => z ⟨z1, z2⟩), oc_s, ob_rfl]
      · rw [b2 (by omega), oc_s, (r_inE hq).2 (fun z2 => m6_ne q hq z2.symm), oc_s, ob_rfl]
