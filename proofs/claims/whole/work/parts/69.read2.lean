/-! ===== PURE 20: readers: entries, counts, the first that is needed ===== -/
theorem f07_arg (y : Int32) : (∃ k : Nat, k ≤ 7 ∧ y = nI k ∧ f_Md_in y.toInt64 0 7 = some 1) ∨ (f_Md_in y.toInt64 0 7 = some 0 ∧ ∀ k : Nat, k ≤ 7 → ¬ y = nI k) := by
  rcases i_cases y with h | ⟨j, h1, rfl⟩
  · refine Or.inr ⟨r_inN ?_, fun k hk => i_neg_ne h (by omega)⟩
    rintro ⟨a, b⟩
    have : (0 : Int) ≤ y.toInt := a
    have := i_negI h
    omega
  · by_cases q : j ≤ 7
    · refine Or.inl ⟨j, q, rfl, r_in ?_⟩
      rw [i_tI (by omega)]
      exact ⟨by show (0 : Int) ≤ _; omega, by show _ ≤ (7 : Int); omega⟩
    · refine Or.inr ⟨r_inN ?_, fun k hk e => q ?_⟩
      · rw [i_tI (by omega)]
        rintro ⟨a, b⟩
        have : (j : Int) ≤ 7 := b
        omega
      · have := i_inj h1 (by omega) e
        omega
theorem s_ofEntry {v : V_St} {f : Nat → Int32} {n s : Nat} (I : INV v n s) (R : REL v f n s) {M : V_Md} (hM : M.1 = f) (x y : Int32) : ∃ a, f_Dy_about x y v.2.1 = some a ∧ f_Md_ofEntry x y M = some a := by
  obtain ⟨⟨w1, w2, w3⟩, i2, i3, -⟩ := I
  obtain ⟨⟨l1, l2, l3, l4⟩, -, r3, -⟩ := R
  have h300 := VL_300 w2
  have h16 := nwk_16 n w2
  rcases en_arg w1 h300 x with ⟨i, hi1, hi2, rfl, a1, a2⟩ | ⟨a1, a2⟩
  rotate_left
  · refine ⟨-1, ?_, ?_⟩
    · unfold f_Dy_about; rw [a1, oc_s, ob_rfl]
    · unfold f_Md_ofEntry; rw [k57, og_in (by omega) (by omega), i_cl (by omega), hM, l2, a2, oc_s, ob_rfl]
  have hs' : v.2.1.2.2.2.2.2.2.2.2 = nI s := i2
  have eC : f_Dy_about (nI i) y v.2.1 = ob (y = 0) (some (lgD v.2.1 i).1) (ob (y = 1) (some (lgD v.2.1 i).2.1) (ob (y = 2) (some (lgD v.2.1 i).2.2.1) (ob (y = 3) (some (lgD v.2.1 i).2.2.2.1) (ob (y = 4) (some (lgD v.2.1 i).2.2.2.2.1) (ob (y = 5) (some (lgD v.2.1 i).2.2.2.2.2.1) (ob (y = 6) (some (lgD v.2.1 i).2.2.2.2.2.2) (ob (y = 7) (ob (nI s < nI i) (some 0) (some 1)) (some (-2))))))))) := by
    unfold f_Dy_about
    rw [a1, oc_s, ob_f d10, c_kind w1 h300 hi1 hi2, oc_s, c_work w1 h300 hi1 hi2, oc_s, c_earl w1 h300 hi1 hi2, oc_s, c_page w1 h300 hi1 hi2, oc_s, c_befo w1 h300 hi1 hi2, oc_s, c_then w1 h300 hi1 hi2, oc_s, c_next w1 h300 hi1 hi2, oc_s, c_asn.1, oc_s, c_asn.2, oc_s, hs']
    rfl
  have eR : f_Md_ofEntry (nI i) y M = oc (f_Md_in y.toInt64 0 7) (fun q_25 => ob (q_25 = 0) (some (-2 : Int32)) (ob (y = (7 : Int32)) (ob (nI s < nI i) (some (0 : Int32)) (some (1 : Int32))) (og (vp_in (nI (67 + 7 * (i - 1)) + y) 2400) (some (f (nI (67 + 7 * (i - 1)) + y).toNatClampNeg))))) := by
    unfold f_Md_ofEntry
    rw [k57, og_in (by omega) (by omega), i_cl (by omega), hM, l2, a2, oc_s, ob_f d10, r_at hi1, k58, og_in (by omega) (by omega), i_cl (by omega), r3]
    rfl
  rw [eC, eR]
  rcases f07_arg y with ⟨k, hk, rfl, b1⟩ | ⟨b1, b2⟩
  rotate_left
  · refine ⟨-2, ?_, by rw [b1, oc_s, ob_rfl]⟩
    rw [k0, kk1, k2, k3, k4, k5, k6, k7, ob_f (b2 0 (by omega)), ob_f (b2 1 (by omega)), ob_f (b2 2 (by omega)), ob_f (b2 3 (by omega)), ob_f (b2 4 (by omega)), ob_f (b2 5 (by omega)), ob_f (b2 6 (by omega)), ob_f (b2 7 (by omega))]
  rw [b1, oc_s, ob_f d10, i_add, og_in (by omega) (by omega), i_cl (by omega)]
  have en : ∀ a b : Nat, a ≤ 7 → b ≤ 7 → a ≠ b → ¬ nI a = nI b := fun a b ha hb h e => h (i_inj (by omega) (by omega) e)
  have el : lgD v.2.1 i = lgR f i := l1 i hi1 hi2
  rw [el, k0, kk1, k2, k3, k4, k5, k6, k7]
  have hk8 : k = 0 ∨ k = 1 ∨ k = 2 ∨ k = 3 ∨ k = 4 ∨ k = 5 ∨ k = 6 ∨ k = 7 := by omega
  rcases hk8 with rfl | rfl | rfl | rfl | rfl | rfl | rfl | rfl
  · rw [ob_t rfl, ob_f (en 0 7 (by omega) (by omega) (by omega))]
    exact ⟨_, rfl, rfl⟩
  · rw [ob_f (en 1 0 (by omega) (by omega) (by omega)), ob_t rfl, ob_f (en 1 7 (by omega) (by omega) (by omega))]
    exact ⟨_, rfl, rfl⟩
  · rw [ob_f (en 2 0 (by omega) (by omega) (by omega)), ob_f (en 2 1 (by omega) (by omega) (by omega)), ob_t rfl, ob_f (en 2 7 (by omega) (by omega) (by omega))]
    exact ⟨_, rfl, rfl⟩
  · rw [ob_f (en 3 0 (by omega) (by omega) (by omega)), ob_f (en 3 1 (by omega) (by omega) (by omega)), ob_f (en 3 2 (by omega) (by omega) (by omega)), ob_t rfl, ob_f (en 3 7 (by omega) (by omega) (by omega))]
    exact ⟨_, rfl, rfl⟩
  · rw [ob_f (en 4 0 (by omega) (by omega) (by omega)), ob_f (en 4 1 (by omega) (by omega) (by omega)), ob_f (en 4 2 (by omega) (by omega) (by omega)), ob_f (en 4 3 (by omega) (by omega) (by omega)), ob_t rfl, ob_f (en 4 7 (by omega) (by omega) (by omega))]
    exact ⟨_, rfl, rfl⟩
  · rw [ob_f (en 5 0 (by omega) (by omega) (by omega)), ob_f (en 5 1 (by omega) (by omega) (by omega)), ob_f (en 5 2 (by omega) (by omega) (by omega)), ob_f (en 5 3 (by omega) (by omega) (by omega)), ob_f (en 5 4 (by omega) (by omega) (by omega)), ob_t rfl, ob_f (en 5 7 (by omega) (by omega) (by omega))]
    exact ⟨_, rfl, rfl⟩
  · rw [ob_f (en 6 0 (by omega) (by omega) (by omega)), ob_f (en 6 1 (by omega) (by omega) (by omega)), ob_f (en 6 2 (by omega) (by omega) (by omega)), ob_f (en 6 3 (by omega) (by omega) (by omega)), ob_f (en 6 4 (by omega) (by omega) (by omega)), ob_f (en 6 5 (by omega) (by omega) (by omega)), ob_t rfl, ob_f (en 6 7 (by omega) (by omega) (by omega))]
    exact ⟨_, rfl, rfl⟩
  · rw [ob_f (en 7 0 (by omega) (by omega) (by omega)), ob_f (en 7 1 (by omega) (by omega) (by omega)), ob_f (en 7 2 (by omega) (by omega) (by omega)), ob_f (en 7 3 (by omega) (by omega) (by omega)), ob_f (en 7 4 (by omega) (by omega) (by omega)), ob_f (en 7 5 (by omega) (by omega) (by omega)), ob_f (en 7 6 (by omega) (by omega) (by omega)), ob_t rfl, ob_t rfl]
    obtain ⟨z, hz⟩ : ∃ z, ob (nI s < nI i) (some (nI 0)) (some (nI 1)) = some z := ob_ex ⟨_, rfl⟩
    exact ⟨z, hz, hz⟩
theorem or_0 (z : Int32) : z ||| (0 : Int32) = z := b_ext (fun i hi => by rw [b_or, b_0, Bool.or_false])
theorem c_openSet {L : Nat → E7} {n : Nat} {k : V_Wk} (hW : WKS L n k) (hV : VL L n) : f_Wk_openSet k = some (fset (fun w => opn L (nI w) n) (nwk L n)) := by
  have h16 := nwk_16 n hV
  have key : ∀ j i m, i + j = nwk L n → j < m → f_Wk_openSet_4 m (fset (fun w => opn L (nI w) n) i) (nI i) k = some (fset (fun w => opn L (nI w) n) (nwk L n)) := by
    intro j
    induction j with
    | zero =>
      intro i m hi hm
      obtain ⟨m, rfl⟩ : ∃ q, m = q + 1 := ⟨m - 1, by omega⟩
      have : i = nwk L n := by omega
      subst this
      rw [e_Wk_openSet_4, hW.1, ob_let (by omega) (by omega)]
    | succ j ih =>
      intro i m hi hm
      obtain ⟨m, rfl⟩ : ∃ q, m = q + 1 := ⟨m - 1, by omega⟩
      have e1 : nI i + 1 = nI (i + 1) := by rw [kk1, i_add]
      rw [e_Wk_openSet_4, hW.1, ob_lef (by omega) (by omega), e1]
      by_cases q : opn L (nI i) n
      · rw [c_wopen hW hV (by omega) q, oc_s, ob_f d10, ← fset_t (c := fun w => opn L (nI w) n) q]
        exact ih (i + 1) m (by omega) (by omega)
      · rw [c_wopenN hW hV (by omega) q, oc_s, ob_rfl, ← fset_f (c := fun w => opn L (nI w) n) q]
        exact ih (i + 1) m (by omega) (by omega)
  unfold f_Wk_openSet
  exact key (nwk L n) 0 FU (by omega) (by unfold FU; omega)
theorem r_openSet {L : Nat → E7} {n : Nat} {f : Nat → Int32} (hV : VL L n) (hR : RL L n f) {M : V_Md} (hM : M.1 = f) : f_Md_count_152 FU 0 0 M = some (fset (fun w => opn L (nI w) n) (nwk L n)) := by
  have h16 := nwk_16 n hV
  obtain ⟨l1, l2, l3, l4⟩ := hR
  have key : ∀ j i m, i + j = nwk L n → j < m → f_Md_count_152 m (fset (fun w => opn L (nI w) n) i) (nI i) M = some (fset (fun w => opn L (nI w) n) (nwk L n)) := by
    intro j
    induction j with
    | zero =>
      intro i m hi hm
      obtain ⟨m, rfl⟩ : ∃ q, m = q + 1 := ⟨m - 1, by omega⟩
      have : i = nwk L n := by omega
      subst this
      rw [e_Md_count_152, k56, og_in (by omega) (by omega), i_cl (by omega), hM, l3, ob_let (by omega) (by omega)]
    | succ j ih =>
      intro i m hi hm
      obtain ⟨m, rfl⟩ : ∃ q, m = q + 1 := ⟨m - 1, by omega⟩
      have e1 : nI i + 1 = nI (i + 1) := by rw [kk1, i_add]
      have hs := sta_0 (wk_has n hV i (by omega))
      rw [e_Md_count_152, k56, og_in (by omega) (by omega), i_cl (by omega), hM, l3, ob_lef (by omega) (by omega), k40, i_add, og_in (by omega) (by omega), i_cl (by omega), l4 i (by omega), e1, or_0]
      by_cases q : opn L (nI i) n
      · rw [ob_t (hs.mpr q), ← fset_t (c := fun w => opn L (nI w) n) q]
        exact ih (i + 1) m (by omega) (by omega)
      · rw [ob_f (fun z => q (hs.mp z))]
        have := ih (i + 1) m (by omega) (by omega)
        rw [fset_f (c := fun w => opn L (nI w) n) q] at this
        exact this
  exact key (nwk L n) 0 FU (by omega) (by unfold FU; omega)
theorem r_dirtySet {g : V_Pg} {f : Nat → Int32} (hP : PGR g f) {M : V_Md} (hM : M.1 = f) : f_Md_count_118 FU 0 0 M = some (fset (fun p => hnd g p ∧ ¬ g.2.2.2.1 p = g.2.1 p) 8) := by
  have key : ∀ j i m, i + j = 8 → j < m → f_Md_count_118 m (fset (fun p => hnd g p ∧ ¬ g.2.2.2.1 p = g.2.1 p) i) (nI i) M = some (fset (fun p => hnd g p ∧ ¬ g.2.2.2.1 p = g.2.1 p) 8) := by
    intro j
    induction j with
    | zero =>
      intro i m hi hm
      obtain ⟨m, rfl⟩ : ∃ q, m = q + 1 := ⟨m - 1, by omega⟩
      have : i = 8 := by omega
      subst this
      rw [e_Md_count_118, k8, ob_let (by omega) (by omega)]
    | succ j ih =>
      intro i m hi hm
      obtain ⟨m, rfl⟩ : ∃ q, m = q + 1 := ⟨m - 1, by omega⟩
      have e1 : nI i + 1 = nI (i + 1) := by rw [kk1, i_add]
      obtain ⟨a, b, c, d⟩ := hP i (by omega)
      have eD : f_Md_isDirty (nI i) M = ob (f (16 + i) = 1) (ob (f (32 + i) = f (8 + i)) (some 0) (some 1)) (some 0) := by
        unfold f_Md_isDirty
        rw [k16, i_add, og_in (by omega) (by omega), i_cl (by omega), k32, i_add, og_in (by omega) (by omega), k8, i_add, og_in (by omega) (by omega), i_cl (by omega), i_cl (by omega), hM]
      have ih' := ih (i + 1) m (by omega) (by omega)
      rw [e_Md_count_118, k8, ob_lef (by omega) (by omega), eD, e1, or_0]
      by_cases q : hnd g i ∧ ¬ g.2.2.2.1 i = g.2.1 i
      · obtain ⟨c1, c2, c3⟩ := c q.1
        rw [ob_t c1, ob_f (by rw [c3, b]; exact q.2), oc_s, ob_f d10, ← fset_t (c := fun p => hnd g p ∧ ¬ g.2.2.2.1 p = g.2.1 p) q]
        exact ih'
      · rw [fset_f (c := fun p => hnd g p ∧ ¬ g.2.2.2.1 p = g.2.1 p) q] at ih'
        by_cases q2 : hnd g i
        · obtain ⟨c1, c2, c3⟩ := c q2
          rw [ob_t c1, ob_t (by rw [c3, b]; exact Classical.not_not.mp (fun z => q ⟨q2, z⟩)), oc_s, ob_rfl]
          exact ih'
        · rw [ob_f (by rw [d q2]; exact d01), oc_s, ob_rfl]
          exact ih'
  exact key 8 0 FU (by omega) (by unfold FU; omega)
theorem s_count {V : V_Fd} {f : Nat → Int32} {n s : Nat} (I : INV V.1 n s) (R : REL V.1 f n s) {M : V_Md} (hM : M.1 = f) (hp : V.2.2.1.2 = M.2.2.2.2.2.2.2.1) (hh : V.2.2.2.2.2.2.2.2.2.2.2.2 = M.2.2.2.1) (x : Int32) : ∃ a, f_Fd_count x V = some a ∧ f_Md_count x M = some a := by
  obtain ⟨⟨w1, w2, w3⟩, i2, i3, i4, i5, -⟩ := I
  obtain ⟨hRL, r2, r3, r4, r5, r6, r7, r8, -⟩ := R
  obtain ⟨l1, l2, l3, l4⟩ := id hRL
  have h300 := VL_300 w2
  have h16 := nwk_16 n w2
  have e1 : V.1.2.1.2.2.2.2.2.2.2.1 = nI n := w1
  have e2 : V.1.2.1.2.2.2.2.2.2.2.2 = nI s := i2
  have e3 : f_Fd_asNumber V.1.2.2.2.1 = some V.1.2.2.2.1 := by
    rcases i5 with q | q
    · have : V.1.2.2.2.1 = 0 := q
      rw [this]; exact c_asn.1
    · have : V.1.2.2.2.1 = 1 := q
      rw [this]; exact c_asn.2
  have eN : f_St_number x V.1 = ob (x = 0) (some (nI (nwk (lgD V.1.2.1) n))) (ob (x = 1) (some (nI n)) (ob (x = 2) (some (nI s)) (ob (x = 3) (some (mdg V.1)) (ob (x = 4) (some (flo V.1)) (ob (x = 5) (some (stp V.1)) (ob (x = 6) (some (los V.1)) (ob (x = 7) (some (fset (fun p => hnd V.1.1 p ∧ ¬ V.1.1.2.2.2.1 p = V.1.1.2.1 p) 8)) (ob (x = 8) (some (fset (fun w => opn (lgD V.1.2.1) (nI w) n) (nwk (lgD V.1.2.1) n))) (some (-2)))))))))) := by
    unfold f_St_number
    rw [e3, oc_s, c_dirtySet, oc_s, c_openSet w3 w2, oc_s, w3.1, e1, e2]
  have eC : f_Fd_count x V = ob (x = 9) (some M.2.2.2.2.2.2.2.1) (ob (x = 10) (some M.2.2.2.1) (ob (x = 0) (some (nI (nwk (lgD V.1.2.1) n))) (ob (x = 1) (some (nI n)) (ob (x = 2) (some (nI s)) (ob (x = 3) (some (mdg V.1)) (ob (x = 4) (some (flo V.1)) (ob (x = 5) (some (stp V.1)) (ob (x = 6) (some (los V.1)) (ob (x = 7) (some (fset (fun p => hnd V.1.1 p ∧ ¬ V.1.1.2.2.2.1 p = V.1.1.2.1 p) 8)) (ob (x = 8) (some (fset (fun w => opn (lgD V.1.2.1) (nI w) n) (nwk (lgD V.1.2.1) n))) (some (-2)))))))))))) := by
    have hz : ∃ z, f_St_number x V.1 = some z := by
      rw [eN]
      exact ob_ex (ob_ex (ob_ex (ob_ex (ob_ex (ob_ex (ob_ex (ob_ex (ob_ex ⟨_, rfl⟩))))))))
    obtain ⟨z, hz⟩ := hz
    unfold f_Fd_count f_Pd_length f_Hi_length
    rw [oc_s, oc_s, hz, oc_s, hp, hh, ← eN, hz]
  have eR : f_Md_count x M = ob (x = 0) (some (nI (nwk (lgD V.1.2.1) n))) (ob (x = 1) (some (nI n)) (ob (x = 2) (some (nI s)) (ob (x = 3) (some (mdg V.1)) (ob (x = 4) (some (flo V.1)) (ob (x = 5) (some (stp V.1)) (ob (x = 6) (some (los V.1)) (ob (x = 7) (some (fset (fun p => hnd V.1.1 p ∧ ¬ V.1.1.2.2.2.1 p = V.1.1.2.1 p) 8)) (ob (x = 8) (some (fset (fun w => opn (lgD V.1.2.1) (nI w) n) (nwk (lgD V.1.2.1) n))) (ob (x = 9) (some M.2.2.2.2.2.2.2.1) (ob (x = 10) (some M.2.2.2.1) (some (-2)))))))))))) := by
    unfold f_Md_count
    rw [k56, og_in (by omega) (by omega), i_cl (by omega), k57, og_in (by omega) (by omega), i_cl (by omega), k58, og_in (by omega) (by omega), i_cl (by omega), k59, og_in (by omega) (by omega), i_cl (by omega), k63, og_in (by omega) (by omega), i_cl (by omega), k64, og_in (by omega) (by omega), i_cl (by omega), k65, og_in (by omega) (by omega), i_cl (by omega), r_dirtySet r2 hM, r_openSet w2 hRL hM, hM, l2, l3, r3, r4, r6, r7, r8]
  have hz : ∃ z, f_Fd_count x V = some z := by
    rw [eC]
    exact ob_ex (ob_ex (ob_ex (ob_ex (ob_ex (ob_ex (ob_ex (ob_ex (ob_ex (ob_ex (ob_ex ⟨_, rfl⟩))))))))))
  have hE : f_Md_count x M = f_Fd_count x V := by
    rw [eR, eC]
    by_cases q9 : x = 9
    · subst q9
      rw [ob_f (show ¬ (9 : Int32) = 0 by decide), ob_f (show ¬ (9 : Int32) = 1 by decide), ob_f (show ¬ (9 : Int32) = 2 by decide), ob_f (show ¬ (9 : Int32) = 3 by decide), ob_f (show ¬ (9 : Int32) = 4 by decide), ob_f (show ¬ (9 : Int32) = 5 by decide), ob_f (show ¬ (9 : Int32) = 6 by decide), ob_f (show ¬ (9 : Int32) = 7 by decide), ob_f (show ¬ (9 : Int32) = 8 by decide), ob_rfl, ob_rfl]
    · by_cases q10 : x = 10
      · subst q10
        rw [ob_f (show ¬ (10 : Int32) = 0 by decide), ob_f (show ¬ (10 : Int32) = 1 by decide), ob_f (show ¬ (10 : Int32) = 2 by decide), ob_f (show ¬ (10 : Int32) = 3 by decide), ob_f (show ¬ (10 : Int32) = 4 by decide), ob_f (show ¬ (10 : Int32) = 5 by decide), ob_f (show ¬ (10 : Int32) = 6 by decide), ob_f (show ¬ (10 : Int32) = 7 by decide), ob_f (show ¬ (10 : Int32) = 8 by decide), ob_f (show ¬ (10 : Int32) = 9 by decide), ob_rfl, ob_f (show ¬ (10 : Int32) = 9 by decide), ob_rfl]
      · rw [ob_f q9, ob_f q10, ob_f q9, ob_f q10]
  obtain ⟨z, hz⟩ := hz
  exact ⟨z, hz, hE.trans hz⟩
