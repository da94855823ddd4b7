/-! ===== PURE 27: characters on the pad ===== -/
theorem dig (c : Int32) : (∃ d : Nat, d ≤ 9 ∧ c = nI (48 + d) ∧ f_Or_isDigit c = some 1 ∧ f_Md_in c.toInt64 48 57 = some 1) ∨ ((∀ d : Nat, d ≤ 9 → ¬ c = nI (48 + d)) ∧ f_Or_isDigit c = some 0 ∧ f_Md_in c.toInt64 48 57 = some 0) := by
  have e48 : (48 : Int32) = nI 48 := rfl
  have e57 : (57 : Int32) = nI 57 := rfl
  rcases i_cases c with h | ⟨j, h1, rfl⟩
  · refine Or.inr ⟨fun d hd => i_neg_ne h (by omega), ?_, r_inN ?_⟩
    · unfold f_Or_isDigit
      rw [e48, ob_t (i_neg_lt h (by omega))]
    · rintro ⟨a, b⟩
      have : (48 : Int) ≤ c.toInt := a
      have := i_negI h
      omega
  · by_cases q : 48 ≤ j ∧ j ≤ 57
    · refine Or.inl ⟨j - 48, by omega, by congr 1; omega, ?_, r_in ?_⟩
      · unfold f_Or_isDigit
        rw [e48, e57, ob_ltf (by omega) (by omega), ob_ltf (by omega) (by omega)]
      · rw [i_tI (by omega)]
        exact ⟨by show (48 : Int) ≤ _; omega, by show _ ≤ (57 : Int); omega⟩
    · refine Or.inr ⟨fun d hd e => ?_, ?_, r_inN ?_⟩
      · have := i_inj h1 (by omega) e
        omega
      · unfold f_Or_isDigit
        by_cases z : j < 48
        · rw [e48, ob_ltt z (by omega)]
        · rw [e48, e57, ob_ltf (by omega) (by omega), ob_ltt (by omega) (by omega)]
      · rw [i_tI (by omega)]
        rintro ⟨a, b⟩
        have : (48 : Int) ≤ (j : Int) := a
        have : (j : Int) ≤ 57 := b
        omega
/-- the character at a place: the class has 0 behind the end, the reference -6 -/
theorem p_at {P : V_Pd} {T : Nat → Int32} {len : Int32} {m i : Nat} (h : PD P T len m) (hm : m ≤ 80) (hi : i < 2147483648) : (i < m → f_Pd_at (nI i) P = some (T i)) ∧ (m ≤ i → f_Pd_at (nI i) P = some 0) := by
  obtain ⟨a, -, c⟩ := h
  have hnn : ¬ nI i < 0 := by
    rw [k0]
    exact nI_nlt (by omega) (by omega)
  constructor
  · intro q
    unfold f_Pd_at
    rw [ob_f hnn, a, ob_lef (by omega) (by omega), og_in (by omega) (by omega), i_cl (by omega), c i q]
  · intro q
    unfold f_Pd_at
    rw [ob_f hnn, a, ob_let q (by omega)]
theorem m_sign {M : V_Md} {m i : Nat} (hl : M.2.2.2.2.2.2.2.1 = nI m) (hp : M.2.2.2.2.2.2.2.2 = nI i) (hm : m ≤ 80) (hi : i < 2147483648) : (i < m → f_Md_sign M = some (M.2.2.2.2.2.2.1 i)) ∧ (m ≤ i → f_Md_sign M = some (-6)) := by
  constructor
  · intro q
    unfold f_Md_sign
    rw [hl, hp, ob_lef (by omega) (by omega), og_in (by omega) (by omega), i_cl (by omega)]
  · intro q
    unfold f_Md_sign
    rw [hl, hp, ob_let q (by omega)]
