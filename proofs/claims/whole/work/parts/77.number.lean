/-! ===== PURE 28: reading a number ===== -/
abbrev oP (v : V_Or) (p : Nat) : V_Or := (v.1, v.2.1, v.2.2.1, v.2.2.2.1, v.2.2.2.2.1, nI p, v.2.2.2.2.2.2)
abbrev mP (M : V_Md) (p : Nat) : V_Md := (M.1, M.2.1, M.2.2.1, M.2.2.2.1, M.2.2.2.2.1, M.2.2.2.2.2.1, M.2.2.2.2.2.2.1, M.2.2.2.2.2.2.2.1, nI p)
def dT (T : Nat → Int32) (m i : Nat) : Prop := i < m ∧ ∃ d : Nat, d ≤ 9 ∧ T i = nI (48 + d)
theorem at_dig {P : V_Pd} {M : V_Md} {m i : Nat} (h : PD P M.2.2.2.2.2.2.1 M.2.2.2.2.2.2.2.1 m) (hm : m ≤ 80) (hi : i < 2147483648) : ∃ c e, f_Pd_at (nI i) P = some c ∧ f_Md_sign (mP M i) = some e ∧ (dT M.2.2.2.2.2.2.1 m i → c = e ∧ (∃ d : Nat, d ≤ 9 ∧ c = nI (48 + d)) ∧ f_Or_isDigit c = some 1 ∧ f_Md_in e.toInt64 48 57 = some 1) ∧ (¬ dT M.2.2.2.2.2.2.1 m i → f_Or_isDigit c = some 0 ∧ f_Md_in e.toInt64 48 57 = some 0) := by
  obtain ⟨a1, a2⟩ := p_at h hm hi
  obtain ⟨b1, b2⟩ := m_sign (M := mP M i) h.2.1 rfl hm hi
  by_cases q : i < m
  · refine ⟨_, _, a1 q, b1 q, fun z => ?_, fun z => ?_⟩
    · obtain ⟨-, d, d1, d2⟩ := z
      rcases dig (M.2.2.2.2.2.2.1 i) with ⟨e, e1, e2, e3, e4⟩ | ⟨e1, e2, e3⟩
      · exact ⟨rfl, ⟨e, e1, e2⟩, e3, e4⟩
      · exact absurd d2 (e1 d d1)
    · rcases dig (M.2.2.2.2.2.2.1 i) with ⟨e, e1, e2, e3, e4⟩ | ⟨e1, e2, e3⟩
      · exact absurd ⟨q, e, e1, e2⟩ z
      · exact ⟨e2, e3⟩
  · refine ⟨_, _, a2 (by omega), b2 (by omega), fun z => absurd z.1 q, fun _ => ⟨?_, ?_⟩⟩
    · rcases dig 0 with ⟨e, e1, e2, e3, e4⟩ | ⟨e1, e2, e3⟩
      · have := i_inj (a := 0) (b := 48 + e) (by omega) (by omega) e2
        omega
      · exact e2
    · rcases dig (-6) with ⟨e, e1, e2, e3, e4⟩ | ⟨e1, e2, e3⟩
      · exact absurd e2.symm (m6_ne _ (by omega))
      · exact e3
theorem num_loop {P : V_Pd} {M : V_Md} {m : Nat} {v : V_Or} (h : PD P M.2.2.2.2.2.2.1 M.2.2.2.2.2.2.2.1 m) (hm : m ≤ 80) : ∀ (k i l p N1 N2 : Nat), i + k = m → k < N1 → k < N2 → l ≤ 999 → p ≤ 3 → (l = 0 ∨ (p = 1 ∧ 1 ≤ l ∧ l ≤ 9) ∨ (p = 2 ∧ 10 ≤ l ∧ l ≤ 99) ∨ (p = 3 ∧ 100 ≤ l ∧ l ≤ 999)) → ∃ l' i', i ≤ i' ∧ i' ≤ m ∧ l' ≤ 999 ∧ f_Or_readNumber_66 N1 (nI l) (nI p) (oP v i) P = some (nI l', oP v i') ∧ f_Md_number_9 N2 (nI l) (mP M i) = ob (dT M.2.2.2.2.2.2.1 m i') (some (-6, mP M i')) (some (nI l', mP M i')) := by
  intro k
  induction k with
  | zero =>
    intro i l p N1 N2 hi h1 h2 hl hp hd
    obtain ⟨N1, rfl⟩ : ∃ q, N1 = q + 1 := ⟨N1 - 1, by omega⟩
    obtain ⟨N2, rfl⟩ : ∃ q, N2 = q + 1 := ⟨N2 - 1, by omega⟩
    obtain ⟨c, e, x1, x2, -, x4⟩ := at_dig (i := i) h hm (by omega)
    have nd : ¬ dT M.2.2.2.2.2.2.1 m i := fun z => by have := z.1; omega
    obtain ⟨y1, y2⟩ := x4 nd
    refine ⟨l, i, Nat.le_refl _, by omega, hl, ?_, ?_⟩
    · rw [e_Or_readNumber_66]
      by_cases z2 : (3 : Int32) ≤ nI p
      · rw [ob_t z2]
      · rw [ob_f z2]
        by_cases z : nI l ≤ (0 : Int32)
        · rw [ob_t z]
        · rw [ob_f z, x1, oc_s, y1, oc_s, ob_rfl]
    · rw [e_Md_number_9, ob_f (m6_ne l (by omega)), x2, oc_s, y2, oc_s, ob_rfl, ob_f nd]
  | succ k ih =>
    intro i l p N1 N2 hi h1 h2 hl hp hd
    obtain ⟨N1, rfl⟩ : ∃ q, N1 = q + 1 := ⟨N1 - 1, by omega⟩
    obtain ⟨N2, rfl⟩ : ∃ q, N2 = q + 1 := ⟨N2 - 1, by omega⟩
    obtain ⟨c, e, x1, x2, x3, x4⟩ := at_dig (i := i) h hm (by omega)
    have e3 : (3 : Int32) = nI 3 := rfl
    have ei : nI i + (1 : Int32) = nI (i + 1) := by rw [kk1, i_add]
    have ep : nI p + (1 : Int32) = nI (p + 1) := by rw [kk1, i_add]
    by_cases nd : dT M.2.2.2.2.2.2.1 m i
    · obtain ⟨rfl, ⟨d, d1, rfl⟩, y1, y2⟩ := x3 nd
      have e10 : ((10 : Int32) * nI l) + nI (48 + d) - (48 : Int32) = nI (10 * l + d) := by
        have e48 : (48 : Int32) = nI 48 := rfl
        have e1010 : (10 : Int32) = nI 10 := rfl
        rw [e48, e1010, i_mul, i_add, i_sub (by omega)]
        congr 1
        omega
      by_cases l0 : l = 0
      · subst l0
        refine ⟨0, i, Nat.le_refl _, by omega, by omega, ?_, ?_⟩
        · rw [e_Or_readNumber_66]
          by_cases z2 : (3 : Int32) ≤ nI p
          · exact ob_t z2
          · rw [ob_f z2]
            exact ob_t (by decide)
        · rw [e_Md_number_9, ob_f (m6_ne 0 (by omega)), x2, oc_s, y2, oc_s, ob_f d10, ob_t nd]
          exact ob_t rfl
      · have hl0 : ¬ nI l ≤ (0 : Int32) := by
          rw [k0]
          exact nI_ge (by omega) (by omega)
        have hl1 : ¬ nI l = (0 : Int32) := by
          rw [k0]
          exact fun q => l0 (i_inj (by omega) (by omega) q)
        have hR : f_Md_number_9 (N2 + 1) (nI l) (mP M i) = ob (nI (10 * l + d) ≤ (999 : Int32)) (f_Md_number_9 N2 (nI (10 * l + d)) (mP M (i + 1))) (some (-6, mP M i)) := by
          rw [e_Md_number_9, ob_f (m6_ne l (by omega)), x2, oc_s, y2, oc_s, ob_f d10, ob_f hl1, oc_s, oc_s, e10]
          show ob _ (f_Md_number_9 N2 (nI (10 * l + d)) (M.1, M.2.1, M.2.2.1, M.2.2.2.1, M.2.2.2.2.1, M.2.2.2.2.2.1, M.2.2.2.2.2.2.1, M.2.2.2.2.2.2.2.1, nI i + 1)) _ = _
          rw [ei]
        by_cases l1 : 100 ≤ l
        · refine ⟨l, i, Nat.le_refl _, by omega, hl, ?_, ?_⟩
          · rw [e_Or_readNumber_66, e3, ob_let (by omega) (by omega)]
          · rw [hR, k999, ob_lef (by omega) (by omega), ob_t nd]
        · obtain ⟨l', i', z1, z2, z3, z4, z5⟩ := ih (i + 1) (10 * l + d) (p + 1) N1 N2 (by omega) (by omega) (by omega) (by omega) (by omega) (by omega)
          refine ⟨l', i', by omega, z2, z3, ?_, ?_⟩
          · rw [e_Or_readNumber_66, e3, ob_lef (by omega) (by omega), ob_f hl0, x1, oc_s, y1, oc_s, ob_f d10, oc_s, e10]
            show f_Or_readNumber_66 N1 (nI (10 * l + d)) (nI p + 1) (v.1, v.2.1, v.2.2.1, v.2.2.2.1, v.2.2.2.2.1, nI i + 1, v.2.2.2.2.2.2) P = _
            rw [ei, ep]
            exact z4
          · rw [hR, k999, ob_let (by omega) (by omega)]
            exact z5
    · obtain ⟨y1, y2⟩ := x4 nd
      refine ⟨l, i, Nat.le_refl _, by omega, hl, ?_, ?_⟩
      · rw [e_Or_readNumber_66]
        by_cases z2 : (3 : Int32) ≤ nI p
        · rw [ob_t z2]
        · rw [ob_f z2]
          by_cases z : nI l ≤ (0 : Int32)
          · rw [ob_t z]
          · rw [ob_f z, x1, oc_s, y1, oc_s, ob_rfl]
      · rw [e_Md_number_9, ob_f (m6_ne l (by omega)), x2, oc_s, y2, oc_s, ob_rfl, ob_f nd]
