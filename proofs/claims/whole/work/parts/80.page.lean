/-! ===== PURE 31: a page's digit ===== -/
theorem page {P : V_Pd} {M : V_Md} {m i : Nat} {v : V_Or} (h : PD P M.2.2.2.2.2.2.1 M.2.2.2.2.2.2.2.1 m) (hm : m ≤ 80) (hv : v.2.2.2.2.2.2 = -6) (hi : i < 2147483648) :
    (∃ p : Nat, p < 8 ∧ i < m ∧ f_Or_readPage (oP v i) P = some (nI p, oP v (i + 1)) ∧ f_Md_taken 48 55 (mP M i) = some (nI p, mP M (i + 1))) ∨
    (f_Or_readPage (oP v i) P = some (0, oF v i) ∧ f_Md_taken 48 55 (mP M i) = some (-6, mP M i)) := by
  obtain ⟨a1, a2⟩ := p_at h hm hi
  obtain ⟨b1, b2⟩ := m_sign (M := mP M i) h.2.1 rfl hm hi
  have ei : nI i + (1 : Int32) = nI (i + 1) := by rw [kk1, i_add]
  have e48 : (48 : Int32) = nI 48 := rfl
  have hvv : (oP v i).2.2.2.2.2.2 = (-6 : Int32) := hv
  have bad : ∀ c : Int32, f_Pd_at (nI i) P = some c → f_Fd_isPage (c - 48) = some 0 → f_Or_readPage (oP v i) P = some (0, oF v i) := by
    intro c hc hp
    unfold f_Or_readPage
    rw [hc, oc_s, ob_t hvv, hp, oc_s, ob_rfl]
    exact ob_f (m6_ne i hi)
  by_cases q : i < m
  · have hc := a1 q
    rcases pg_arg (M.2.2.2.2.2.2.1 i - 48) with ⟨p, hp, hx⟩ | ⟨hx, -⟩
    · have hT : M.2.2.2.2.2.2.1 i = nI (48 + p) := by
        have := Int32.sub_add_cancel (M.2.2.2.2.2.2.1 i) 48
        rw [hx, e48, i_add] at this
        rw [← this]
        congr 1
        omega
      refine Or.inl ⟨p, hp, q, ?_, ?_⟩
      · unfold f_Or_readPage
        rw [hc, oc_s, ob_t hvv, hx, c_isPage hp, oc_s, ob_f d10, ob_t hvv, ei]
      · unfold f_Md_taken
        rw [b1 q, oc_s]
        have hin : f_Md_in (M.2.2.2.2.2.2.1 i).toInt64 (48 : Int32).toInt64 (55 : Int32).toInt64 = some 1 := by
          rw [hT]
          refine r_in ?_
          rw [i_tI (by omega)]
          exact ⟨by show (48 : Int) ≤ _; omega, by show _ ≤ (55 : Int); omega⟩
        show oc (f_Md_in (M.2.2.2.2.2.2.1 i).toInt64 (48 : Int32).toInt64 (55 : Int32).toInt64) (fun q_11 => ob (q_11 = 0) (some ((-6 : Int32), mP M i)) (some ((M.2.2.2.2.2.2.1 i - 48), (M.1, M.2.1, M.2.2.1, M.2.2.2.1, M.2.2.2.2.1, M.2.2.2.2.2.1, M.2.2.2.2.2.2.1, M.2.2.2.2.2.2.2.1, nI i + 1)))) = _
        rw [hin, oc_s, ob_f d10, hx, ei]
    · refine Or.inr ⟨bad _ hc hx, ?_⟩
      unfold f_Md_taken
      rw [b1 q, oc_s]
      have hin : f_Md_in (M.2.2.2.2.2.2.1 i).toInt64 (48 : Int32).toInt64 (55 : Int32).toInt64 = some 0 := by
        refine r_inN ?_
        rintro ⟨x1, x2⟩
        have y1 : (48 : Int) ≤ (M.2.2.2.2.2.2.1 i).toInt := x1
        have y2 : (M.2.2.2.2.2.2.1 i).toInt ≤ (55 : Int) := x2
        rcases i_cases (M.2.2.2.2.2.2.1 i) with z | ⟨j, z1, z2⟩
        · have := i_negI z
          omega
        · rw [z2, i_tI z1] at y1 y2
          rw [z2, e48, i_sub (by omega), c_isPage (by omega)] at hx
          exact absurd (Option.some.inj hx) d10
      show oc (f_Md_in (M.2.2.2.2.2.2.1 i).toInt64 (48 : Int32).toInt64 (55 : Int32).toInt64) _ = _
      rw [hin, oc_s, ob_rfl]
  · refine Or.inr ⟨bad 0 (a2 (by omega)) ?_, ?_⟩
    · exact c_isPageM (by decide)
    · unfold f_Md_taken
      rw [b2 (by omega), oc_s]
      have hin : f_Md_in (-6 : Int32).toInt64 (48 : Int32).toInt64 (55 : Int32).toInt64 = some 0 := by
        refine r_inN ?_
        rintro ⟨x1, -⟩
        have y1 : (48 : Int) ≤ (-6 : Int) := x1
        omega
      show oc (f_Md_in (-6 : Int32).toInt64 (48 : Int32).toInt64 (55 : Int32).toInt64) _ = _
      rw [hin, oc_s, ob_rfl]
