/-! ===== PURE 26: the pad ===== -/
def PD (P : V_Pd) (T : Nat → Int32) (len : Int32) (m : Nat) : Prop := P.2 = nI m ∧ len = nI m ∧ ∀ j, j < m → P.1 j = T j
def ix : Nat → Int32
  | 0 => -1
  | k + 1 => nI k
theorem ix_s (k : Nat) : nI k + (-1 : Int32) = ix k := by
  cases k with
  | zero => decide
  | succ k => exact i_m1 (by omega)
theorem app {x : Int64} : ∀ (k N1 N2 : Nat) (P : V_Pd) (M : V_Md) (m : Nat), m + k ≤ 80 → k < N1 → k < N2 → PD P M.2.2.2.2.2.2.1 M.2.2.2.2.2.2.2.1 m → ∃ P' T', f_Pd_append_5 N1 x (ix k) P = some P' ∧ f_Md_put_89 N2 x (ix k) M = some (nI (m + k), (M.1, M.2.1, M.2.2.1, M.2.2.2.1, M.2.2.2.2.1, M.2.2.2.2.2.1, T', nI (m + k), M.2.2.2.2.2.2.2.2)) ∧ PD P' T' (nI (m + k)) (m + k) := by
  intro k
  induction k with
  | zero =>
    intro N1 N2 P M m hm h1 h2 h
    obtain ⟨N1, rfl⟩ : ∃ q, N1 = q + 1 := ⟨N1 - 1, by omega⟩
    obtain ⟨N2, rfl⟩ : ∃ q, N2 = q + 1 := ⟨N2 - 1, by omega⟩
    obtain ⟨a, b, c⟩ := h
    have hneg : ix 0 < 0 := by decide
    refine ⟨P, M.2.2.2.2.2.2.1, ?_, ?_, a, rfl, c⟩
    · rw [e_Pd_append_5, ob_t hneg]
    · rw [e_Md_put_89, ob_t hneg, b]
      have eM : M = (M.1, M.2.1, M.2.2.1, M.2.2.2.1, M.2.2.2.2.1, M.2.2.2.2.2.1, M.2.2.2.2.2.2.1, nI m, M.2.2.2.2.2.2.2.2) := by rw [← b]
      exact congrArg (fun z => some (nI m, z)) eM
  | succ k ih =>
    intro N1 N2 P M m hm h1 h2 h
    obtain ⟨N1, rfl⟩ : ∃ q, N1 = q + 1 := ⟨N1 - 1, by omega⟩
    obtain ⟨N2, rfl⟩ : ∃ q, N2 = q + 1 := ⟨N2 - 1, by omega⟩
    obtain ⟨a, b, c⟩ := h
    obtain ⟨r, r1, -, r3⟩ := by_all ((x.toUInt64 >>> (((8 : Int32) * nI k).toInt64.toUInt64 &&& Int64.toUInt64 63)).toInt64)
    have hnn : ¬ ix (k + 1) < 0 := by
      show ¬ nI k < 0
      rw [k0]
      exact nI_nlt (by omega) (by omega)
    have hr : (nI r).toInt = (r : Int) := i_tI (by omega)
    have en : vp_nar .char ((nI r).toUInt32 % 65536).toInt32 = nI r := by
      rw [lg_i2c_word (by omega) (by omega), vp_nar_char, lg_i2c_small (by omega) (by omega)]
    have e1 : nI m + 1 = nI (m + 1) := by rw [kk1, i_add]
    have em : m + 1 + k = m + (k + 1) := by omega
    obtain ⟨P', T', x1, x2, x3⟩ := ih N1 N2 (upd P.1 m (nI r), nI (m + 1)) (M.1, M.2.1, M.2.2.1, M.2.2.2.1, M.2.2.2.2.1, M.2.2.2.2.2.1, upd M.2.2.2.2.2.2.1 m (nI r), nI (m + 1), M.2.2.2.2.2.2.2.2) (m + 1) (by omega) (by omega) (by omega) ⟨rfl, rfl, fun j hj => by
      by_cases q : j = m
      · subst q
        show upd _ _ _ _ = upd _ _ _ _
        rw [up_s, up_s]
      · show upd _ _ _ _ = upd _ _ _ _
        rw [up_n _ _ q, up_n _ _ q]
        exact c j (by omega)⟩
    rw [em] at x2 x3
    refine ⟨P', T', ?_, ?_, x3⟩
    · rw [e_Pd_append_5, ob_f hnn]
      show ob ((80 : Int32) ≤ P.2) (some P) (og (vp_in P.2 80) (nx (upd P.1 P.2.toNatClampNeg (vp_nar .char ((((x.toUInt64 >>> (((8 : Int32) * nI k).toInt64.toUInt64 &&& Int64.toUInt64 63)).toInt64 &&& (255 : Int64)).toInt32.toUInt32 % 65536).toInt32))) (fun r_40 => f_Pd_append_5 N1 x (nI k + (-1 : Int32)) (r_40, P.2 + 1)))) = _
      rw [r3, lg_l2i_i2l, en, a, k80, ob_lef (by omega) (by omega), og_in (by omega) (by omega), i_cl (by omega), nx_s, ix_s, e1]
      exact x1
    · rw [e_Md_put_89, ob_f hnn]
      show og (vp_in M.2.2.2.2.2.2.2.1 80) (nx (upd M.2.2.2.2.2.2.1 M.2.2.2.2.2.2.2.1.toNatClampNeg ((x.toUInt64 >>> (((8 : Int32) * nI k).toInt64.toUInt64 &&& Int64.toUInt64 63)).toInt64 &&& (255 : Int64)).toInt32) (fun r_114 => f_Md_put_89 N2 x (nI k + (-1 : Int32)) (M.1, M.2.1, M.2.2.1, M.2.2.2.1, M.2.2.2.2.1, M.2.2.2.2.2.1, r_114, (M.2.2.2.2.2.2.2.1 + (1 : Int32)), M.2.2.2.2.2.2.2.2))) = _
      rw [r3, lg_l2i_i2l, b, og_in (by omega) (by omega), i_cl (by omega), nx_s, ix_s, e1]
      exact x2
theorem s_put_text {V : V_Fd} {M : V_Md} {m : Nat} (hm : m ≤ 80) (h : PD V.2.2.1 M.2.2.2.2.2.2.1 M.2.2.2.2.2.2.2.1 m) (x : Int64) : ∃ a P' T' len' m', f_Fd_put x V = some (a, (V.1, V.2.1, P', V.2.2.2.1, V.2.2.2.2)) ∧ f_Md_put x M = some (a, (M.1, M.2.1, M.2.2.1, M.2.2.2.1, M.2.2.2.2.1, M.2.2.2.2.2.1, T', len', M.2.2.2.2.2.2.2.2)) ∧ m' ≤ 80 ∧ PD P' T' len' m' := by
  obtain ⟨c, c1, c2, c3, c4⟩ := chars (x := x) (M := M) 8 0 x FU FU (by omega) (by unfold FU; omega) (by unfold FU; omega) (by
    have := x.toUInt64.toNat_lt
    omega)
  obtain ⟨a, b, d⟩ := id h
  have hC : f_Fd_charactersIn x = some (nI c) := c2
  by_cases h0 : c = 0
  · subst h0
    refine ⟨-2, V.2.2.1, M.2.2.2.2.2.2.1, M.2.2.2.2.2.2.2.1, m, ?_, c3 rfl, hm, h⟩
    unfold f_Fd_put
    rw [hC, oc_s]
    exact ob_t rfl
  · have hc0 : ¬ nI c = 0 := by
      rw [k0]
      exact fun q => h0 (i_inj (by omega) (by omega) q)
    have hM := c4 (by omega)
    rw [b, i_add] at hM
    by_cases hr : m + c ≤ 80
    · obtain ⟨P', T', x1, x2, x3⟩ := app (x := x) c FU FU V.2.2.1 M m hr (by unfold FU; omega) (by unfold FU; omega) h
      obtain ⟨c', rfl⟩ : ∃ q, c = q + 1 := ⟨c - 1, by omega⟩
      refine ⟨nI (m + (c' + 1)), P', T', nI (m + (c' + 1)), m + (c' + 1), ?_, ?_, hr, x3⟩
      · unfold f_Fd_put f_Pd_hasRoomFor f_Pd_append f_Pd_length
        have es : nI (c' + 1) - (1 : Int32) = nI c' := by rw [kk1, i_sub (by omega)]; rfl
        rw [hC, oc_s, ob_f hc0, a, i_add, k80, ob_ltf (by omega) (by omega), oc_s, ob_f d10, es]
        show oc (f_Pd_append_5 FU x (ix (c' + 1)) V.2.2.1) _ = _
        rw [x1, oc_s, oc_s, x3.1]
      · refine hM.trans ?_
        rw [k80, ob_let hr (by omega)]
        exact x2
    · refine ⟨-4, V.2.2.1, M.2.2.2.2.2.2.1, M.2.2.2.2.2.2.2.1, m, ?_, ?_, hm, h⟩
      · unfold f_Fd_put f_Pd_hasRoomFor
        rw [hC, oc_s, ob_f hc0, a, i_add, k80, ob_ltt (by omega) (by omega), oc_s, ob_rfl]
      · refine hM.trans ?_
        rw [k80, ob_lef (by omega) (by omega)]
theorem s_wipe {V : V_Fd} {M : V_Md} {m : Nat} (h : PD V.2.2.1 M.2.2.2.2.2.2.1 M.2.2.2.2.2.2.2.1 m) : f_Fd_wipe V = some (nI m, (V.1, V.2.1, (V.2.2.1.1, (0 : Int32)), V.2.2.2.1, V.2.2.2.2)) ∧ f_Md_wipe M = some (nI m, (M.1, M.2.1, M.2.2.1, M.2.2.2.1, M.2.2.2.2.1, M.2.2.2.2.2.1, M.2.2.2.2.2.2.1, (0 : Int32), M.2.2.2.2.2.2.2.2)) ∧ PD (V.2.2.1.1, (0 : Int32)) M.2.2.2.2.2.2.1 0 0 := by
  obtain ⟨a, b, d⟩ := h
  refine ⟨?_, ?_, rfl, rfl, fun j hj => by omega⟩
  · unfold f_Fd_wipe f_Pd_length f_Pd_empty
    rw [oc_s, oc_s, a]
  · unfold f_Md_wipe
    rw [b]
