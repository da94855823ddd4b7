/-! ===== PURE 32: the pieces of an order, on both sides ===== -/
abbrev oW (A B C D : Nat → Int32) (n i : Nat) : V_Or := (A, B, C, D, nI n, nI i, (-6 : Int32))
abbrev oE (A B C D : Nat → Int32) (n i e : Nat) : V_Or := (A, B, C, D, nI n, nI i, nI e)
section OO
variable {P : V_Pd} {M : V_Md} {m i n : Nat} {A B C D : Nat → Int32}
theorem num2 (h : PD P M.2.2.2.2.2.2.1 M.2.2.2.2.2.2.2.1 m) (hm : m ≤ 80) (hi : i < 2147483648) :
    (¬ dT M.2.2.2.2.2.2.1 m i → f_Or_readNumber (oW A B C D n i) P = some (0, oE A B C D n i i) ∧ f_Md_number (mP M i) = some (-6, mP M i)) ∧
    (dT M.2.2.2.2.2.2.1 m i → ∃ l j, i < j ∧ j ≤ m ∧ f_Or_readNumber (oW A B C D n i) P = some (nI l, oW A B C D n j) ∧ l ≤ 999 ∧ ∀ R : Nat → Int32, f_Md_number (mP (R, M.2) i) = ob (dT M.2.2.2.2.2.2.1 m j) (some (-6, mP (R, M.2) j)) (some (nI l, mP (R, M.2) j))) := by
  have hv : (oW A B C D n 0).2.2.2.2.2.2 = (-6 : Int32) := rfl
  refine ⟨(num h hm hv hi).1, fun nd => ?_⟩
  obtain ⟨l, j, x1, x2, x3, x4, x5⟩ := (num h hm hv hi).2 nd
  refine ⟨l, j, x1, x2, x4, x3, fun R => ?_⟩
  obtain ⟨l2, j2, y1, y2, y3, y4, y5⟩ := (num (M := (R, M.2)) h hm hv hi).2 nd
  have e := Option.some.inj (x4.symm.trans y4)
  have e1 : nI l = nI l2 := congrArg (fun z => z.1) e
  have e2 : nI j = nI j2 := congrArg (fun z => z.2.2.2.2.2.2.1) e
  have e3 := i_inj (by omega) (by omega) e1
  have e4 := i_inj (by omega) (by omega) e2
  subst e3
  subst e4
  exact y5
theorem page2 (h : PD P M.2.2.2.2.2.2.1 M.2.2.2.2.2.2.2.1 m) (hm : m ≤ 80) (hi : i < 2147483648) :
    (∃ p : Nat, p < 8 ∧ i < m ∧ f_Or_readPage (oW A B C D n i) P = some (nI p, oW A B C D n (i + 1)) ∧ ∀ R : Nat → Int32, f_Md_taken 48 55 (mP (R, M.2) i) = some (nI p, mP (R, M.2) (i + 1))) ∨
    (f_Or_readPage (oW A B C D n i) P = some (0, oE A B C D n i i) ∧ f_Md_taken 48 55 (mP M i) = some (-6, mP M i)) := by
  have hv : (oW A B C D n 0).2.2.2.2.2.2 = (-6 : Int32) := rfl
  rcases page h hm hv hi with ⟨p, x1, x2, x3, x4⟩ | ⟨x1, x2⟩
  · refine Or.inl ⟨p, x1, x2, x3, fun R => ?_⟩
    rcases page (M := (R, M.2)) h hm hv hi with ⟨q, y1, y2, y3, y4⟩ | ⟨y1, y2⟩
    · have e := Option.some.inj (x3.symm.trans y3)
      have e1 : nI p = nI q := congrArg (fun z => z.1) e
      have e3 := i_inj (by omega) (by omega) e1
      subst e3
      exact y4
    · have e := Option.some.inj (x3.symm.trans y1)
      have e2 : nI (i + 1) = nI i := congrArg (fun z => z.2.2.2.2.2.2.1) e
      have e4 := i_inj (by omega) (by omega) e2
      omega
  · exact Or.inr ⟨x1, x2⟩
theorem expe2 {q : Nat} (h : PD P M.2.2.2.2.2.2.1 M.2.2.2.2.2.2.2.1 m) (hm : m ≤ 80) (hi : i < 2147483648) (hq1 : 1 ≤ q) (hq : q < 2147483648) :
    (i < m ∧ M.2.2.2.2.2.2.1 i = nI q → f_Or_expect (nI q) (oW A B C D n i) P = some (oW A B C D n (i + 1)) ∧ ∀ R : Nat → Int32, f_Md_taken (nI q) (nI q) (mP (R, M.2) i) = some (0, mP (R, M.2) (i + 1))) ∧
    (¬ (i < m ∧ M.2.2.2.2.2.2.1 i = nI q) → f_Or_expect (nI q) (oW A B C D n i) P = some (oE A B C D n i i) ∧ f_Md_taken (nI q) (nI q) (mP M i) = some (-6, mP M i)) := by
  have hv : (oW A B C D n 0).2.2.2.2.2.2 = (-6 : Int32) := rfl
  obtain ⟨x1, x2⟩ := expe (q := q) h hm hv hi hq1 hq
  refine ⟨fun z => ⟨(x1 z).1, fun R => ?_⟩, fun z => x2 z⟩
  exact ((expe (M := (R, M.2)) (q := q) h hm hv hi hq1 hq).1 z).2
/-- behind a fault nothing is read -/
theorem at_some (h : PD P M.2.2.2.2.2.2.1 M.2.2.2.2.2.2.2.1 m) (hm : m ≤ 80) (hi : i < 2147483648) : ∃ c, f_Pd_at (nI i) P = some c := by
  obtain ⟨a1, a2⟩ := p_at h hm hi
  by_cases q : i < m
  · exact ⟨_, a1 q⟩
  · exact ⟨_, a2 (by omega)⟩
theorem f_expe {e : Nat} (he : e < 2147483648) (q : Int32) : f_Or_expect q (oE A B C D n i e) P = some (oE A B C D n i e) := by
  unfold f_Or_expect
  exact ob_f (m6_ne e he)
theorem f_page {e : Nat} (h : PD P M.2.2.2.2.2.2.1 M.2.2.2.2.2.2.2.1 m) (hm : m ≤ 80) (hi : i < 2147483648) (he : e < 2147483648) : f_Or_readPage (oE A B C D n i e) P = some (0, oE A B C D n i e) := by
  obtain ⟨c, hc⟩ := at_some h hm hi
  have hx : ¬ (oE A B C D n i e).2.2.2.2.2.2 = (-6 : Int32) := m6_ne e he
  unfold f_Or_readPage
  rw [hc, oc_s, ob_f hx, ob_f hx]
theorem f_num {e : Nat} (he : e < 2147483648) : f_Or_readNumber (oE A B C D n i e) P = some (0, oE A B C D n i e) := by
  have hx : ¬ (oE A B C D n i e).2.2.2.2.2.2 = (-6 : Int32) := m6_ne e he
  unfold f_Or_readNumber f_Or_readNumber_31
  rw [ob_f hx, ob_f hx]
theorem f_ord {e : Nat} (h : PD P M.2.2.2.2.2.2.1 M.2.2.2.2.2.2.2.1 m) (hm : m ≤ 80) (hi : i < 2147483648) (he : e < 2147483648) : f_Or_readOrder (oE A B C D n i e) P = some (oE A B C D n i e) := by
  obtain ⟨c, hc⟩ := at_some h hm hi
  have hx : ¬ (oE A B C D n i e).2.2.2.2.2.2 = (-6 : Int32) := m6_ne e he
  unfold f_Or_readOrder
  rw [hc, oc_s, ob_f hx]
/-- the rest of an order that writes -/
noncomputable def wC (v : V_Or) (u : V_Pd) : Option V_Or :=
  oc (f_Or_readNumber v u) (fun q_211 => og (vp_in v.2.2.2.2.1 80) (nx (upd q_211.2.2.2.2.1 v.2.2.2.2.1.toNatClampNeg q_211.1) (fun r_214 => some (q_211.2.1, q_211.2.2.1, q_211.2.2.2.1, r_214, (q_211.2.2.2.2.2.1 + (1 : Int32)), q_211.2.2.2.2.2.2.1, q_211.2.2.2.2.2.2.2))))
noncomputable def wB (v : V_Or) (u : V_Pd) : Option V_Or :=
  oc (f_Or_readPage v u) (fun q_190 => og (vp_in v.2.2.2.2.1 80) (nx (upd q_190.2.2.2.1 v.2.2.2.2.1.toNatClampNeg q_190.1) (fun r_193 => oc (f_Or_expect (61 : Int32) (q_190.2.1, q_190.2.2.1, r_193, q_190.2.2.2.2.1, q_190.2.2.2.2.2.1, q_190.2.2.2.2.2.2.1, q_190.2.2.2.2.2.2.2) u) (fun q_198 => wC q_198 u))))
noncomputable def wA (v : V_Or) (u : V_Pd) : Option V_Or :=
  oc (f_Or_readNumber v u) (fun q_169 => og (vp_in v.2.2.2.2.1 80) (nx (upd q_169.2.2.1 v.2.2.2.2.1.toNatClampNeg q_169.1) (fun r_172 => oc (f_Or_expect (62 : Int32) (q_169.2.1, r_172, q_169.2.2.2.1, q_169.2.2.2.2.1, q_169.2.2.2.2.2.1, q_169.2.2.2.2.2.2.1, q_169.2.2.2.2.2.2.2) u) (fun q_177 => wB q_177 u))))
noncomputable def wP (v : V_Or) (u : V_Pd) : Option V_Or :=
  oc (f_Or_readPage v u) (fun q_228 => og (vp_in v.2.2.2.2.1 80) (nx (upd q_228.2.2.2.1 v.2.2.2.2.1.toNatClampNeg q_228.1) (fun r_231 => some (q_228.2.1, q_228.2.2.1, r_231, q_228.2.2.2.2.1, (q_228.2.2.2.2.2.1 + (1 : Int32)), q_228.2.2.2.2.2.2.1, q_228.2.2.2.2.2.2.2))))
theorem f_wC {e : Nat} (hn : n < 80) (he : e < 2147483648) : wC (oE A B C D n i e) P = some (oE A B C (upd D n 0) (n + 1) i e) := by
  unfold wC
  rw [f_num he, oc_s]
  show og (vp_in (nI n) 80) (nx (upd D (nI n).toNatClampNeg 0) (fun r => some (A, B, C, r, nI n + 1, nI i, nI e))) = _
  rw [og_in hn (by omega), i_cl (by omega), nx_s, kk1, i_add]
theorem f_wB {e : Nat} (h : PD P M.2.2.2.2.2.2.1 M.2.2.2.2.2.2.2.1 m) (hm : m ≤ 80) (hi : i < 2147483648) (hn : n < 80) (he : e < 2147483648) : wB (oE A B C D n i e) P = some (oE A B (upd C n 0) (upd D n 0) (n + 1) i e) := by
  unfold wB
  rw [f_page h hm hi he, oc_s]
  show og (vp_in (nI n) 80) (nx (upd C (nI n).toNatClampNeg 0) (fun r => oc (f_Or_expect 61 (A, B, r, D, nI n, nI i, nI e) P) (fun q => wC q P))) = _
  rw [og_in hn (by omega), i_cl (by omega), nx_s, f_expe he, oc_s, f_wC hn he]
end OO
