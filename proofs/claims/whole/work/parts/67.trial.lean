/-! ===== PURE 18: copies of rows; the trial ===== -/
theorem r_copy {n1 n2 a b : Nat} (ha : a + 2400 ≤ n1) (hb : b + 2400 ≤ n2) (h1 : n1 < 2147483648) (h2 : n2 < 2147483648) (f g : Nat → Int32) : ∃ h, f_Md_copyState n1 n2 (nI a) (nI b) f g = some h ∧ (∀ j, j < 2400 → h (b + j) = f (a + j)) ∧ ∀ j, j < b ∨ b + 2400 ≤ j → h j = g j := by
  have key : ∀ k i N (g : Nat → Int32), i + k = 2400 → k < N → ∃ h, f_Md_copyState_3 n1 n2 N (nI a) (nI b) (nI i) f g = some h ∧ (∀ j, i ≤ j → j < 2400 → h (b + j) = f (a + j)) ∧ ∀ j, j < b + i ∨ b + 2400 ≤ j → h j = g j := by
    intro k
    induction k with
    | zero =>
      intro i N g hi hN
      obtain ⟨N, rfl⟩ : ∃ q, N = q + 1 := ⟨N - 1, by omega⟩
      refine ⟨g, ?_, fun j x y => by omega, fun j _ => rfl⟩
      rw [e_Md_copyState_3, k2400, ob_let (by omega) (by omega)]
    | succ k ih =>
      intro i N g hi hN
      obtain ⟨N, rfl⟩ : ∃ q, N = q + 1 := ⟨N - 1, by omega⟩
      obtain ⟨h, x1, x2, x3⟩ := ih (i + 1) N (upd g (b + i) (f (a + i))) (by omega) (by omega)
      refine ⟨h, ?_, fun j y z => ?_, fun j y => ?_⟩
      · rw [e_Md_copyState_3, k2400, ob_lef (by omega) (by omega), i_add, i_add, og_in (by omega) (by omega), og_in (by omega) (by omega), nx_s, i_cl (by omega), i_cl (by omega), kk1, i_add]
        exact x1
      · by_cases q : j = i
        · subst q
          rw [x3 _ (by omega), up_s]
        · exact x2 j (by omega) z
      · rw [x3 j (by omega), up_n _ _ (by omega)]
  obtain ⟨h, x1, x2, x3⟩ := key 2400 0 FU g (by omega) (by unfold FU; omega)
  exact ⟨h, x1, fun j hj => x2 j (by omega) hj, fun j hj => x3 j (by omega)⟩
theorem i_asc (x y : Int32) : x + y - x = y := by
  rw [Int32.add_comm]
  exact Int32.add_sub_cancel y x
theorem s_mend999 {t : V_St} {f : Nat → Int32} {n s : Nat} (I : INV t n s) (R : REL t f n s) (h1 : mdg t = 1) : ∃ w i f2 n' s', f_St_mendSteps 999 t = some (nI i, w) ∧ f_Md_mendOn 999 f = some (nI i, f2) ∧ INV w n' s' ∧ REL w f2 n' s' ∧ mdg w = 0 ∧ i ≤ 999 ∧ f2 64 = f 64 + nI i := by
  obtain ⟨f0, a, d, x1, x2⟩ := mend_start (T := 999) I R h1
  obtain ⟨v1, f1, n1, a1, d1, i1, y1, y2, y3, y4, y5, y6, y7⟩ := mend_par (T := 999) (Nat.le_refl _) 999 0 FU FU _ f0 n a d (by omega) (by unfold FU; omega) (by unfold FU; omega) x1
  obtain ⟨v2, f2, s2, z1, z2, z3, z4, z5, z6, z7⟩ := mend_fin (i := i1) y4
  have h300 := VL_300 I.1.2.1
  have hsn : s ≤ n := I.2.2.1
  obtain ⟨q1, q2⟩ := y6 (by omega)
  refine ⟨v2, i1, f2, n1, s2, ?_, ?_, z3, z4, z6 q1 q2, y3, ?_⟩
  · unfold f_St_mendSteps
    rw [ob_f (show ¬ (999 : Int32) < 1 by decide), ob_t (show (999 : Int32) ≤ 999 by decide), ob_f (show ¬ mdg t = 0 by rw [h1]; exact d10)]
    exact y1.trans z1
  · exact x2.trans (y2.trans z2)
  · obtain ⟨-, -, -, -, -, -, e64, -⟩ := z4
    obtain ⟨-, -, -, -, -, -, g64, -⟩ := R
    rw [e64, z7, y7, g64]
theorem s_trial {V : V_Fd} {f : Nat → Int32} {n s : Nat} (I : INV V.1 n s) (R : REL V.1 f n s) {M : V_Md} (hM : M.1 = f) : ∃ t w i f' n' s', f_Fd_tryFlood V = some (V.1, t, V.2.2) ∧ f_St_mendSteps 999 t = some (nI i, w) ∧ f_Md_mendAll M = some (nI i, (M.1, f', M.2.2)) ∧ INV w n' s' ∧ REL w f' n' s' ∧ mdg w = 0 ∧ i ≤ 999 := by
  obtain ⟨t0, b1, b2⟩ := c_become V.2.1 I
  have I0 := INV_alk b2 I
  have R0 := REL_alk b2 I R
  obtain ⟨q, c1, c2, c3⟩ := r_copy (n1 := 2400) (n2 := 2400) (a := 0) (b := 0) (by omega) (by omega) (by omega) (by omega) M.1 M.2.1
  have Rq : REL t0 q n s := REL_row (fun j hj => by
    have := c2 j hj
    rw [Nat.zero_add] at this
    rw [this, hM]) I0 R0
  have em : mdg t0 = mdg V.1 := congrArg (fun z => z.1) b2.2.2.2.2.2.2.2
  have loop : ∀ (t : V_St) (g : Nat → Int32) (n s : Nat), INV t n s → REL t g n s → mdg t = 1 → ∃ w i f' n' s', f_St_mendSteps 999 t = some (nI i, w) ∧ f_Md_mendAll_39 FU (g 64) (M.1, g, M.2.2) = some (nI i, (M.1, f', M.2.2)) ∧ INV w n' s' ∧ REL w f' n' s' ∧ mdg w = 0 ∧ i ≤ 999 := by
    intro t g n s It Rt ht
    obtain ⟨w, i, f2, n', s', x1, x2, x3, x4, x5, x6, x7⟩ := s_mend999 It Rt ht
    refine ⟨w, i, f2, n', s', x1, ?_, x3, x4, x5, x6⟩
    have e59 : g 59 = 1 := Rt.2.2.2.1.trans ht
    have e59' : f2 59 = 0 := x4.2.2.2.1.trans x5
    have hFU : FU = 19998 + 1 + 1 := rfl
    rw [hFU, e_Md_mendAll_39, k59, og_in (by omega) (by omega), i_cl (by omega)]
    show ob (g 59 = 1) (oc (f_Md_mendOn 999 g) _) _ = _
    rw [ob_t e59, x2, oc_s, e_Md_mendAll_39, k59, og_in (by omega) (by omega), i_cl (by omega)]
    show ob (f2 59 = 1) _ (og (vp_in (64 : Int32) 2400) (some (f2 (64 : Int32).toNatClampNeg - g 64, (M.1, f2, M.2.2)))) = _
    rw [ob_f (by rw [e59']; exact d01), k64, og_in (by omega) (by omega), i_cl (by omega), x7, i_asc]
  have hd : f_Md_mendAll M = ob (q 59 = 0) (oc (f_Md_floodOn q) (fun q_27 => og (vp_in (64 : Int32) 2400) (f_Md_mendAll_39 FU (q_27.2 (64 : Int32).toNatClampNeg) (M.1, q_27.2, M.2.2)))) (f_Md_mendAll_39 FU (q 64) (M.1, q, M.2.2)) := by
    unfold f_Md_mendAll
    have c1' : f_Md_copyState 2400 2400 0 0 M.1 M.2.1 = some q := c1
    rw [c1', oc_s, k59, og_in (by omega) (by omega), i_cl (by omega), k64, og_in (by omega) (by omega)]
    rfl
  by_cases h0 : mdg V.1 = 0
  · obtain ⟨t, g, f1, f2, f3, f4, f5, -, -⟩ := s_flood I0 Rq
    obtain ⟨w, i, f', n', s', x1, x2, x3, x4, x5, x6⟩ := loop t g _ _ f3 f4 f5
    refine ⟨t, w, i, f', n', s', ?_, x1, ?_, x3, x4, x5, x6⟩
    · unfold f_Fd_tryFlood
      rw [b1, oc_s, ob_t (show t0.2.2.2.1 = 0 from em.trans h0), f1, oc_s]
    · rw [hd, ob_t (show q 59 = 0 from Rq.2.2.2.1.trans (em.trans h0)), f2, oc_s, k64, og_in (by omega) (by omega), i_cl (by omega)]
      exact x2
  · have h1 := I.2.2.2.2.1.resolve_left h0
    obtain ⟨w, i, f', n', s', x1, x2, x3, x4, x5, x6⟩ := loop t0 q _ _ I0 Rq (em.trans h1)
    refine ⟨t0, w, i, f', n', s', ?_, x1, ?_, x3, x4, x5, x6⟩
    · unfold f_Fd_tryFlood
      rw [b1, oc_s, ob_f (show ¬ t0.2.2.2.1 = 0 from fun z => h0 (em.symm.trans z))]
    · rw [hd, ob_f (show ¬ q 59 = 0 from fun z => h0 (em.symm.trans (Rq.2.2.2.1.symm.trans z)))]
      exact x2
theorem s_stepsToMend {V : V_Fd} {f : Nat → Int32} {n s : Nat} (I : INV V.1 n s) (R : REL V.1 f n s) {M : V_Md} (hM : M.1 = f) : ∃ a w f', f_Fd_stepsToMend V = some (a, (V.1, w, V.2.2)) ∧ f_Md_stepsToMend M = some (a, (M.1, f', M.2.2)) := by
  obtain ⟨t, w, i, f', n', s', x1, x2, x3, x4, x5, x6, x7⟩ := s_trial I R hM
  refine ⟨nI i, w, f', ?_, ?_⟩
  · unfold f_Fd_stepsToMend
    rw [x1, oc_s]
    show oc (f_St_mendSteps 999 t) _ = _
    rw [x2, oc_s]
  · unfold f_Md_stepsToMend
    rw [x3, oc_s]
theorem r_value {g : V_Pg} {f : Nat → Int32} {p : Nat} (hp : p < 8) (h : PGR g f) : f_Md_valueOf (nI p) f = some ((tkh g p).2.2.1 p) := by
  obtain ⟨a, b, c, d⟩ := h p hp
  unfold f_Md_valueOf tkh
  rw [k16, i_add, og_in (by omega) (by omega), i_cl (by omega)]
  by_cases q : hnd g p
  · rw [ob_t (c q).1, k24, i_add, og_in (by omega) (by omega), i_cl (by omega), (c q).2.1, ob_t q]
  · rw [ob_f (by rw [d q]; exact d01), k0, i_add, Nat.zero_add, og_in (by omega) (by omega), i_cl (by omega), a, ob_f q]
    exact congrArg some (up_s _ _ _).symm
theorem s_wouldBe {V : V_Fd} {f : Nat → Int32} {n s : Nat} (I : INV V.1 n s) (R : REL V.1 f n s) {M : V_Md} (hM : M.1 = f) (x : Int32) : ∃ a w f', f_Fd_wouldBe x V = some (a, (V.1, w, V.2.2)) ∧ f_Md_wouldBe x M = some (a, (M.1, f', M.2.2)) := by
  rcases pg_arg x with ⟨p, hp, rfl⟩ | ⟨a1, a2⟩
  · obtain ⟨t, w, i, f', n', s', x1, x2, x3, x4, x5, x6, x7⟩ := s_trial I R hM
    refine ⟨(tkh w.1 p).2.2.1 p, (tkh w.1 p, w.2), f', ?_, ?_⟩
    · unfold f_Fd_wouldBe
      rw [c_isPage hp, oc_s, ob_f d10, x1, oc_s]
      show oc (f_St_mendSteps 999 t) _ = _
      rw [x2, oc_s]
      show oc (f_Pg_takeIntoHand (nI p) w.1) _ = _
      rw [c_take hp, oc_s]
      show oc (f_Pg_valueInHand (nI p) (tkh w.1 p)) _ = _
      rw [c_valH hp (tkR_h hp x5.2.1), oc_s]
    · unfold f_Md_wouldBe
      rw [r_isPage hp, oc_s, ob_f d10, x3, oc_s]
      show oc (f_Md_valueOf (nI p) f') _ = _
      rw [r_value hp x5.2.1, oc_s]
  · refine ⟨-1, V.2.1, M.2.1, ?_, ?_⟩
    · unfold f_Fd_wouldBe
      rw [a1, oc_s, ob_rfl]
    · unfold f_Md_wouldBe
      rw [a2, oc_s, ob_rfl]
