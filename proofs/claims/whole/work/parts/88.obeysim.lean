/-! ===== PURE 39: an order obeyed on both sides ===== -/
theorem s_mendOn {v : V_St} {f : Nat → Int32} {n s m : Nat} (I : INV v n s) (R : REL v f n s) (hm1 : 1 ≤ m) (hm2 : m ≤ 999) (c1 : mdg v = 1) : ∃ (i : Nat) (v2 : V_St) (f2 : Nat → Int32) (n' s' : Nat), i ≤ 999 ∧ f_St_mendSteps (nI m) v = some (nI i, v2) ∧ f_Md_mendOn (nI m) f = some (nI i, f2) ∧ INV v2 n' s' ∧ REL v2 f2 n' s' := by
  have eC : f_St_mendSteps (nI m) v = ob (mdg v = 0) (some ((-5 : Int32), v)) (f_St_mendSteps_32 FU (nI m) (0 : Int32) (v.1, v.2.1, v.2.2.1, v.2.2.2.1, (1 : Int32), v.2.2.2.2.2.1, v.2.2.2.2.2.2.1, v.2.2.2.2.2.2.2.1, v.2.2.2.2.2.2.2.2)) := by
    unfold f_St_mendSteps
    rw [ob_f (show ¬ nI m < (1 : Int32) from nI_nlt (by omega) (by omega)), ob_t (show nI m ≤ (999 : Int32) by rw [k999]; exact nI_le hm2 (by omega))]
  obtain ⟨f0, a, d, h1, h2⟩ := mend_start (T := m) I R c1
  obtain ⟨v1, f1, n1, a1, d1, i1, y1, y2, y3, y4, y5, y6, y7⟩ := mend_par (T := m) hm2 m 0 FU FU _ f0 n a d (by omega) (by unfold FU; omega) (by unfold FU; omega) h1
  obtain ⟨v2, f2, s2, z1, z2, z3, z4, z5, z6, z7⟩ := mend_fin (i := i1) y4
  refine ⟨i1, v2, f2, n1, s2, by omega, ?_, ?_, z3, z4⟩
  · rw [eC, ob_f (by rw [c1]; exact d10)]
    exact y1.trans z1
  · exact h2.trans (y2.trans z2)
def DO (w : V_St) (fc : Option (Int32 × V_St)) (fr : Option (Int32 × V_Md)) (v : V_Md) : Prop :=
  (∃ e : Int32, e < 0 ∧ fc = some (e, w) ∧ fr = some (0, v)) ∨
  (∃ (a : Int32) (w' : V_St) (f' : Nat → Int32) (n' s' : Nat), 0 ≤ a ∧ fc = some (a, w') ∧ fr = some (1, mk1 f' v) ∧ INV w' n' s' ∧ REL w' f' n' s')
theorem DO_S {w : V_St} {fc : Option (Int32 × V_St)} {why : Option Int32} {fr : Option (Int32 × (Nat → Int32))} {v : V_Md} (S : SIM w fc why fr) : DO w fc (dS why fr v) v := by
  rcases S with ⟨e, h1, h2, h3⟩ | ⟨a, w', f', n', s', h1, h2, h3, h4, h5, h6⟩
  · refine Or.inl ⟨e, h1, h2, ?_⟩
    unfold dS
    rw [h3, oc_s, ob_f (neg_ne h1), ob_rfl]
  · refine Or.inr ⟨a, w', f', n', s', h1, h2, ?_, h5, h6⟩
    unfold dS
    rw [h3, oc_s, ob_rfl, ob_f d10, h4, oc_s]
theorem DO_V {w : V_St} {fc : Option (Int32 × V_St)} {x : Int32} {f : Nat → Int32} {v : V_Md} (S : SIM w fc (f_Md_whyNotSave x f) (saveOn x f)) : DO w fc (dV (f_Md_whyNotSave x f) (f_Md_saveTo x f) v) v := by
  rcases S with ⟨e, h1, h2, h3⟩ | ⟨a, w', f', n', s', h1, h2, h3, h4, h5, h6⟩
  · refine Or.inl ⟨e, h1, h2, ?_⟩
    unfold dV
    rw [h3, oc_s, ob_f (neg_ne h1), ob_rfl]
  · refine Or.inr ⟨a, w', f', n', s', h1, h2, ?_, h5, h6⟩
    unfold saveOn at h4
    obtain ⟨g, h7, h8⟩ := oc_e h4
    obtain ⟨h9, h10⟩ := og_e h8
    have h12 : g = f' := congrArg (fun z => z.2) (Option.some.inj h10)
    unfold dV
    rw [h3, oc_s, ob_rfl, ob_f d10, h7, oc_s, h12]
theorem DO_M {w : V_St} {n s l : Nat} {v : V_Md} (I : INV w n s) (R : REL w v.1 n s) (hl : l ≤ 999) : DO w (f_St_mendSteps (nI l) w) (f_Md_doOrder_403 (nI l) v) v := by
  have r4 : v.1 59 = mdg w := R.2.2.2.1
  have i5 := I.2.2.2.2.1
  by_cases l0 : l = 0
  · subst l0
    refine Or.inl ⟨-2, by decide, ?_, ?_⟩
    · unfold f_St_mendSteps
      exact ob_t (by decide)
    · unfold f_Md_doOrder_403
      rw [ob_t (by decide), ob_rfl]
  have hn : ¬ nI l ≤ (0 : Int32) := by
    rw [k0]
    exact nI_ge (by omega) (by omega)
  by_cases c1 : mdg w = 0
  · refine Or.inl ⟨-5, by decide, ?_, ?_⟩
    · unfold f_St_mendSteps
      rw [ob_f (show ¬ nI l < (1 : Int32) by rw [kk1]; exact nI_nlt (by omega) (by omega)), ob_t (show nI l ≤ (999 : Int32) by rw [k999]; exact nI_le hl (by omega)), ob_t c1]
    · unfold f_Md_doOrder_403
      rw [ob_f hn, k59, og_in (by omega) (by omega), i_cl (by omega), ob_f (by rw [r4, c1]; exact d01), ob_rfl]
  · have c1' := i5.resolve_left c1
    obtain ⟨i, w', f', n', s', y0, y1, y2, y3, y4⟩ := s_mendOn I R (show 1 ≤ l by omega) hl c1'
    refine Or.inr ⟨nI i, w', f', n', s', nI_pos' (by omega), y1, ?_, y3, y4⟩
    unfold f_Md_doOrder_403
    rw [ob_f hn, k59, og_in (by omega) (by omega), i_cl (by omega), ob_t (r4.trans c1'), ob_f d10, y2, oc_s]
theorem DO_F {w : V_St} {n s : Nat} {v : V_Md} (I : INV w n s) (R : REL w v.1 n s) : DO w (f_St_takeFlood w) (oc (f_Md_floodOn v.1) (fun q_397 => some ((1 : Int32), mk1 q_397.2 v))) v := by
  obtain ⟨v', f', h1, h2, h3, h4, h5, h6, h7⟩ := s_flood I R
  exact Or.inr ⟨nI (n - s), v', f', s, s, nI_pos' (by omega), h1, by rw [h2, oc_s], h3, h4⟩
section OX
variable {M : V_Md} {i : Nat} {R : Nat → Int32}
theorem dO_bx {c : Int32} (hc : f_Md_sign (mP (R, M.2) i) = some c) (h : c = 98 ∨ c = 120) : f_Md_doOrder (mP (R, M.2) i) = f_Md_doOrder_52 c 0 (mP (R, M.2) (i + 1)) := by
  have ei : nI i + (1 : Int32) = nI (i + 1) := by rw [kk1, i_add]
  unfold f_Md_doOrder
  rw [hc, oc_s]
  dsimp only [mP]
  rcases h with rfl | rfl
  · rw [ob_rfl, ei]
  · rw [ob_f (by decide), ob_rfl, ei]
theorem dO_p (hc : f_Md_sign (mP (R, M.2) i) = some 112) : f_Md_doOrder (mP (R, M.2) i) = oc (f_Md_taken 48 55 (mP (R, M.2) (i + 1))) (fun q_42 => f_Md_doOrder_52 112 q_42.1 q_42.2) := by
  have ei : nI i + (1 : Int32) = nI (i + 1) := by rw [kk1, i_add]
  unfold f_Md_doOrder
  rw [hc, oc_s]
  dsimp only [mP]
  rw [ob_f (by decide), ob_f (by decide), ob_rfl, ei]
theorem dO_n {c : Int32} (hc : f_Md_sign (mP (R, M.2) i) = some c) (h1 : ¬ c = 98) (h2 : ¬ c = 120) (h3 : ¬ c = 112) : f_Md_doOrder (mP (R, M.2) i) = oc (f_Md_number (mP (R, M.2) (i + 1))) (fun q_49 => f_Md_doOrder_52 c q_49.1 q_49.2) := by
  have ei : nI i + (1 : Int32) = nI (i + 1) := by rw [kk1, i_add]
  unfold f_Md_doOrder
  rw [hc, oc_s]
  dsimp only [mP]
  rw [ob_f h1, ob_f h2, ob_f h3, ei]
theorem DO_E {w : V_St} {fc : Option (Int32 × V_St)} {x y : Option (Int32 × V_Md)} {v : V_Md} (h : DO w fc x v) (e : y = x) : DO w fc y v := by
  rw [e]
  exact h
theorem obey {P : V_Pd} {m j k n s : Nat} {O : V_Or} {w : V_St} (h : PD P M.2.2.2.2.2.2.1 M.2.2.2.2.2.2.2.1 m) (hm : m ≤ 80) (I : INV w n s) (Rl : REL w R n s) (hk : k < 80) (h0 : ORD M m i (O.1 k) (O.2.1 k) (O.2.2.1 k) (O.2.2.2.1 k) j) : DO w (f_Or_obey (nI k) O w) (f_Md_doOrder (mP (R, M.2) i)) (mP (R, M.2) j) := by
  obtain ⟨him, hij, hjm, hT, hO⟩ := h0
  have hs : f_Md_sign (mP (R, M.2) i) = some (M.2.2.2.2.2.2.1 i) := (m_sign (M := mP (R, M.2) i) h.2.1 rfl hm (show i < 2147483648 by omega)).1 him
  rw [hT] at hs
  have Rl' : REL w (mP (R, M.2) j).1 n s := Rl
  rcases hO with ⟨c, rfl⟩ | ⟨c, h1⟩ | ⟨c, ⟨l, hl, hl2⟩, h1⟩ | ⟨c, q, h1⟩
  · rcases c with c | c
    · rw [ob_98 hk c]
      rw [c] at hs
      exact DO_E (DO_S (s_begin I Rl)) ((dO_bx hs (Or.inl rfl)).trans d_98)
    · rw [ob_120 hk c]
      rw [c] at hs
      exact DO_E (DO_F I Rl') ((dO_bx hs (Or.inr rfl)).trans d_120)
  · rw [ob_112 hk c]
    rw [c] at hs
    have e := dO_p hs
    rw [h1 R, oc_s, d_112] at e
    exact DO_E (DO_S (s_put I Rl _)) e
  · rcases c with c | c | c | c
    · rw [ob_102 hk c]
      rw [c] at hs
      have e := dO_n hs (by decide) (by decide) (by decide)
      rw [h1 R, oc_s, d_102] at e
      exact DO_E (DO_S (s_finish I Rl _)) e
    · rw [ob_109 hk c]
      rw [c] at hs
      have e := dO_n hs (by decide) (by decide) (by decide)
      rw [h1 R, oc_s, d_109] at e
      refine DO_E ?_ e
      rw [hl2]
      exact DO_M I Rl' hl
    · rw [ob_115 hk c]
      rw [c] at hs
      have e := dO_n hs (by decide) (by decide) (by decide)
      rw [h1 R, oc_s, d_115] at e
      exact DO_E (DO_V (s_save I Rl _)) e
    · rw [ob_116 hk c]
      rw [c] at hs
      have e := dO_n hs (by decide) (by decide) (by decide)
      rw [h1 R, oc_s, d_116] at e
      exact DO_E (DO_S (s_tear I Rl _)) e
  · rw [ob_119 hk c]
    rw [c] at hs
    obtain ⟨x1, x2, x3⟩ := h1 R
    have e := dO_n hs (by decide) (by decide) (by decide)
    have eq1 : nI q + (1 : Int32) = nI (q + 1) := by rw [kk1, i_add]
    have eq3 : nI (q + 2) + (1 : Int32) = nI (q + 3) := by rw [kk1, i_add]
    rw [x1, oc_s, d_119] at e
    dsimp only [mP] at e x2 x3
    rw [eq1, x2, oc_s] at e
    dsimp only at e
    rw [eq3, x3, oc_s] at e
    exact DO_E (DO_S (s_write I Rl _ _ _)) e
end OX
