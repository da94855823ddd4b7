/-! ===== PURE 10: finishing, saving, putting away ===== -/
abbrev svD (d : V_Dy) (m : Nat) : V_Dy := (d.1, d.2.1, d.2.2.1, d.2.2.2.1, d.2.2.2.2.1, d.2.2.2.2.2.1, d.2.2.2.2.2.2.1, d.2.2.2.2.2.2.2.1, nI m)
theorem c_save {d : V_Dy} {s m : Nat} (hs : dsv d = nI s) (h1 : s < 2147483648) (h2 : m < 2147483648) : f_Dy_saveUpTo (nI m) d = some (svD d (max s m)) := by
  unfold f_Dy_saveUpTo svD
  unfold dsv at hs
  rw [hs, i_max s m h1 h2]
theorem r_save {f : Nat → Int32} {s m : Nat} (hs : f 58 = nI s) (h1 : s < 2147483648) (h2 : m < 2147483648) : f_Md_saveTo (nI m) f = some (upd f 58 (nI (max s m))) := by
  unfold f_Md_saveTo
  rw [k58, og_in (by omega) (by omega), i_cl (by omega), hs]
  by_cases q : s ≤ m
  · rw [ob_let q (by omega), og_in (by omega) (by omega), nx_s, Nat.max_eq_right q]
  · rw [ob_lef (by omega) (by omega), og_in (by omega) (by omega), og_in (by omega) (by omega), nx_s, Nat.max_eq_left (by omega)]
theorem INV_sv {v : V_St} {n s m : Nat} (I : INV v n s) (h0 : mdg v = 0) (h1 : s ≤ m) (h2 : m ≤ n) : INV (v.1, svD v.2.1 m, v.2.2) n m := by
  obtain ⟨i1, i2, i3, i4, i5, i6, i7, i8, i9⟩ := I
  refine ⟨i1, rfl, h2, fun p hp => ?_, i5, i6, i7, fun q => absurd (h0.symm.trans q) d01, fun q => absurd (h0.symm.trans q) d01⟩
  obtain ⟨⟨k, a1, a2⟩, b, c⟩ := i4 p hp
  exact ⟨⟨k, by omega, a2⟩, b, c⟩
theorem REL_sv {v : V_St} {f : Nat → Int32} {n s m : Nat} (R : REL v f n s) (h0 : mdg v = 0) (h16 : nwk (lgD v.2.1) n ≤ 16) : REL (v.1, svD v.2.1 m, v.2.2) (upd f 58 (nI m)) n m := by
  obtain ⟨r1, r2, r3, r4, r5, r6, r7, r8, r9, r10⟩ := R
  refine ⟨RL_cg r1 (fun j a b => up_n _ _ (by omega)) (fun j a => up_n _ _ (by omega)) h16, PGR_cg r2 (fun j hj => up_n _ _ (by omega)), up_s _ _ _, ?_, ?_, ?_, ?_, ?_, fun q => ?_, fun q => absurd (h0.symm.trans q) d01⟩
  · rw [up_n _ _ (by omega)]; exact r4
  · rw [up_n _ _ (by omega)]; exact r5
  · rw [up_n _ _ (by omega)]; exact r6
  · rw [up_n _ _ (by omega)]; exact r7
  · rw [up_n _ _ (by omega)]; exact r8
  · rw [up_n _ _ (by omega)]; exact r9 q
theorem s_finish {v : V_St} {f : Nat → Int32} {n s : Nat} (I : INV v n s) (R : REL v f n s) (x : Int32) : SIM v (f_St_finishWork x v) (f_Md_whyNotFinish x f) (f_Md_finishOn x f) := by
  have I' := I
  have R' := R
  obtain ⟨⟨w1, w2, w3⟩, i2, i3, i4, i5, i6, i7, i8, i9⟩ := I
  obtain ⟨⟨l1, l2, l3, l4⟩, r2, r3, r4, r5, r6, r7, r8, r9, r10⟩ := R
  have h300 := VL_300 w2
  have h16 := nwk_16 n w2
  rcases wk_arg w3 h16 l3 x with ⟨w, hw, rfl⟩ | ⟨a1, a2⟩
  rotate_left
  · refine SIM_e (-1) (by decide) ?_ ?_
    · unfold f_St_finishWork; rw [a1, oc_s, ob_rfl]
    · unfold f_Md_whyNotFinish; rw [a2, oc_s, ob_rfl]
  have b1 := c_whas w3 h16 hw
  have b2 := r_isWork l3 h16 hw
  by_cases c1 : 150 ≤ n
  · refine SIM_e (-4) (by decide) ?_ ?_
    · unfold f_St_finishWork; rw [b1, oc_s, ob_not d10, c_full w1 h300 c1, oc_s, ob_not d10]
    · unfold f_Md_whyNotFinish; rw [b2, oc_s, ob_not d10, k57, og_in (by omega) (by omega), i_cl (by omega), l2, k150, ob_ltf (by omega) (by omega)]
  have h4 := l4 w hw
  have eC : f_St_finishWork (nI w) v = ob (mdg v = 0) (oc (f_Wk_isOpen (nI w) v.2.2.1) (fun q_38 => ob (q_38 = 0) (some ((-5 : Int32), v)) (oc (f_St_enter (3 : Int32) (nI w) v) (fun q_50 => oc (f_Dy_saveUpTo q_50.1 q_50.2.2.1) (fun q_59 => some (q_50.1, (q_50.2.1, q_59, q_50.2.2.2.1, q_50.2.2.2.2.1, q_50.2.2.2.2.2.1, q_50.2.2.2.2.2.2.1, q_50.2.2.2.2.2.2.2.1, q_50.2.2.2.2.2.2.2.2.1, q_50.2.2.2.2.2.2.2.2.2))))))) (some ((-5 : Int32), v)) := by
    unfold f_St_finishWork
    rw [b1, oc_s, ob_not d10, c_fullN w1 (by omega), oc_s, ob_rfl]
  have eR : f_Md_whyNotFinish (nI w) f = oc (f_Md_isStopped (nI w) f) (fun q_29 => ob (q_29 = 0) (some (0 : Int32)) (some (-5 : Int32))) := by
    unfold f_Md_whyNotFinish
    rw [b2, oc_s, ob_not d10, k57, og_in (by omega) (by omega), i_cl (by omega), l2, k150, ob_ltt (by omega) (by omega)]
  rw [eC, eR]
  by_cases c2 : mdg v = 0
  rotate_left
  · refine SIM_e (-5) (by decide) (by rw [ob_f c2]) ?_
    rw [(r_stop (by omega)).1 (Or.inl (by rw [r4]; exact i5.resolve_left c2)), oc_s, ob_not d10]
  rw [ob_t c2]
  by_cases c3 : opn (lgD v.2.1) (nI w) n
  rotate_left
  · refine SIM_e (-5) (by decide) (by rw [c_wopenN w3 w2 hw c3, oc_s, ob_rfl]) ?_
    rw [(r_stop (by omega)).1 (Or.inr (by rw [h4]; exact fun q => c3 ((sta_0 (wk_has n w2 w hw)).mp q))), oc_s, ob_not d10]
  rw [c_wopen w3 w2 hw c3, oc_s, ob_not d10, (r_stop (by omega)).2 (by rw [r4, c2]; exact d01) (by rw [h4, (opn_goo c3).2.2]), oc_s, ob_rfl]
  have hv : vent (lgD v.2.1) n (ent6 3 (nI w) (lst (lgD v.2.1) (nI w) n)) := ⟨rfl, Or.inr (Or.inr (Or.inr (Or.inl ⟨rfl, c3, i7 c2 _ c3, by omega, rfl, rfl, rfl, rfl⟩)))⟩
  obtain ⟨k', t1, t2⟩ := c_enter (e := ent6 3 (nI w) (lst (lgD v.2.1) (nI w) n)) ⟨w1, w2, w3⟩ hv rfl
  have hg : ∀ i, 1 ≤ i → i ≤ n → lgD v.2.1 i = lgD (addE v.2.1 n (ent6 3 (nI w) (lst (lgD v.2.1) (nI w) n))) i := fun i a b => (lgD_old _ _ _ (by omega)).symm
  have hk : nwk (lgD (addE v.2.1 n (ent6 3 (nI w) (lst (lgD v.2.1) (nI w) n)))) (n + 1) = nwk (lgD v.2.1) n := by
    rw [nwk_n (by rw [lgD_new]; exact d30), nwk_cg n hg]
  have eL : lst (lgR f) (nI w) n = lst (lgD v.2.1) (nI w) n := (lst_cg _ n l1).symm
  have I2 := INV_add I' c2 t2 (fun p hp => by
    obtain ⟨x, y, z⟩ := i4 p hp
    exact ⟨x, y, fun q => ⟨by obtain ⟨⟨k, z1, z2⟩, -⟩ := z q; exact ⟨k, by omega, z2⟩, (z q).2⟩⟩) (nob_add (Or.inr (Or.inr rfl)) (i7 c2))
  have R2 : REL (v.1, addE v.2.1 n (ent6 3 (nI w) (lst (lgD v.2.1) (nI w) n)), k', v.2.2.2) (upd (addR f n (ent6 3 (nI w) (lst (lgD v.2.1) (nI w) n))) (40 + w) 1) (n + 1) s := by
    refine REL_add R' c2 (RL_add w2 hv ⟨l1, l2, l3, l4⟩ hg (lgD_new _ _ _) ?_ ?_ ?_ ?_ ?_) ?_ ?_
    · rw [up_n _ _ (by omega), addR_57]
    · rw [up_n _ _ (by omega), addR_lo _ _ _ (by omega) (by omega), hk]; exact l3
    · intro i a b
      unfold lgR
      simp (disch := omega) only [up_n]
    · intro u hu1 hu2
      rw [hk] at hu1
      have : u = w := i_inj (by omega) (by omega) hu2.symm
      subst this
      rw [up_s]
      rfl
    · intro u hu1 hu2
      have : u ≠ w := fun q => hu2 (by rw [q])
      rw [up_n _ _ (by omega), addR_lo _ _ _ (by omega) (by omega)]
    · refine PGR_cg r2 (fun j hj => ?_)
      rw [up_n _ _ (by omega), addR_lo _ _ _ (by omega) (by omega)]
    · intro j j1 j2
      rw [up_n _ _ (by omega), addR_lo _ _ _ (by omega) (by omega)]
  have t3 : f_St_enter 3 (nI w) v = _ := t1
  have em : max s (n + 1) = n + 1 := Nat.max_eq_right (by omega)
  refine Or.inr ⟨nI (n + 1), (v.1, svD (addE v.2.1 n (ent6 3 (nI w) (lst (lgD v.2.1) (nI w) n))) (n + 1), k', v.2.2.2), upd (upd (addR f n (ent6 3 (nI w) (lst (lgD v.2.1) (nI w) n))) (40 + w) 1) 58 (nI (n + 1)), n + 1, n + 1, nI_pos' (by omega), ?_, rfl, ?_, ?_, ?_⟩
  · rw [t3, oc_s]
    have e1 : f_Dy_saveUpTo (nI (n + 1)) (addE v.2.1 n (ent6 3 (nI w) (lst (lgD v.2.1) (nI w) n))) = some (svD (addE v.2.1 n (ent6 3 (nI w) (lst (lgD v.2.1) (nI w) n))) (n + 1)) := by
      rw [c_save (d := addE v.2.1 n (ent6 3 (nI w) (lst (lgD v.2.1) (nI w) n))) (s := s) (m := n + 1) i2 (by omega) (by omega), em]
    exact (congrArg (fun o => oc o _) e1).trans oc_s
  · unfold f_Md_finishOn
    rw [r_enter l2 (by omega) _ _ _ _ _ _ (fun q => absurd q d30), oc_s, k40, i_add, og_in (by omega) (by omega), i_cl (by omega), nx_s, eL]
    have e1 : f_Md_saveTo (nI (n + 1)) (upd (addR f n (ent6 3 (nI w) (lst (lgD v.2.1) (nI w) n))) (40 + w) 1) = some (upd (upd (addR f n (ent6 3 (nI w) (lst (lgD v.2.1) (nI w) n))) (40 + w) 1) 58 (nI (n + 1))) := by
      rw [r_save (s := s) (m := n + 1) R2.2.2.1 (by omega) (by omega), em]
    exact (congrArg (fun o => oc o _) e1).trans oc_s
  · exact INV_sv I2 c2 (by omega) (Nat.le_refl _)
  · exact REL_sv R2 c2 (by show nwk (lgD (addE _ _ _)) _ ≤ 16; rw [hk]; exact h16)
theorem en_arg {d : V_Dy} {n : Nat} (hn : dsz d = nI n) (h3 : n ≤ 300) (x : Int32) : (∃ i : Nat, 1 ≤ i ∧ i ≤ n ∧ x = nI i ∧ f_Dy_has x d = some 1 ∧ f_Md_in x.toInt64 1 (nI n).toInt64 = some 1) ∨ (f_Dy_has x d = some 0 ∧ f_Md_in x.toInt64 1 (nI n).toInt64 = some 0) := by
  have e1 : ((nI n).toInt64).toInt = (n : Int) := by rw [Int32.toInt_toInt64, i_tI (by omega)]
  rcases i_cases x with h | ⟨j, h1, rfl⟩
  · refine Or.inr ⟨c_hasM h, r_inN ?_⟩
    rintro ⟨a, b⟩
    have : (1 : Int) ≤ x.toInt := a
    have := i_negI h
    omega
  · by_cases q : 1 ≤ j ∧ j ≤ n
    · refine Or.inl ⟨j, q.1, q.2, rfl, c_has hn h3 q.1 q.2, r_in ?_⟩
      rw [i_tI (by omega), e1]
      exact ⟨by show (1 : Int) ≤ _; omega, by omega⟩
    · refine Or.inr ⟨c_hasN hn h3 q (by omega), r_inN ?_⟩
      rw [i_tI (by omega), e1]
      rintro ⟨a, b⟩
      have : (1 : Int) ≤ (j : Int) := a
      omega
noncomputable def saveOn (x : Int32) (f : Nat → Int32) : Option (Int32 × (Nat → Int32)) := oc (f_Md_saveTo x f) (fun q_24 => og (vp_in (58 : Int32) 2400) (some ((q_24 (58 : Int32).toNatClampNeg), q_24)))
theorem s_save {v : V_St} {f : Nat → Int32} {n s : Nat} (I : INV v n s) (R : REL v f n s) (x : Int32) : SIM v (f_St_saveEntries x v) (f_Md_whyNotSave x f) (saveOn x f) := by
  have I' := I
  have R' := R
  obtain ⟨⟨w1, w2, w3⟩, i2, i3, i4, i5, i6, i7, i8, i9⟩ := I
  obtain ⟨⟨l1, l2, l3, l4⟩, r2, r3, r4, r5, r6, r7, r8, r9, r10⟩ := R
  have h300 := VL_300 w2
  have h16 := nwk_16 n w2
  rcases en_arg w1 h300 x with ⟨i, hi1, hi2, rfl, a1, a2⟩ | ⟨a1, a2⟩
  rotate_left
  · refine SIM_e (-1) (by decide) ?_ ?_
    · unfold f_St_saveEntries; rw [a1, oc_s, ob_rfl]
    · unfold f_Md_whyNotSave; rw [k57, og_in (by omega) (by omega), i_cl (by omega), l2, a2, oc_s, ob_rfl]
  by_cases c2 : mdg v = 0
  rotate_left
  · refine SIM_e (-5) (by decide) ?_ ?_
    · unfold f_St_saveEntries; rw [a1, oc_s, ob_not d10, ob_f c2]
    · unfold f_Md_whyNotSave; rw [k57, og_in (by omega) (by omega), i_cl (by omega), l2, a2, oc_s, ob_not d10, k59, og_in (by omega) (by omega), i_cl (by omega), r4, ob_t (i5.resolve_left c2)]
  refine Or.inr ⟨nI (max s i), (v.1, svD v.2.1 (max s i), v.2.2), upd f 58 (nI (max s i)), n, max s i, nI_pos' (by omega), ?_, ?_, ?_, INV_sv I' c2 (by omega) (by omega), REL_sv R' c2 h16⟩
  · unfold f_St_saveEntries
    rw [a1, oc_s, ob_not d10, ob_t c2, c_save i2 (by omega) (by omega), oc_s]
  · unfold f_Md_whyNotSave
    rw [k57, og_in (by omega) (by omega), i_cl (by omega), l2, a2, oc_s, ob_not d10, k59, og_in (by omega) (by omega), i_cl (by omega), r4, c2, ob_not d01]
  · unfold saveOn
    rw [r_save r3 (by omega) (by omega), oc_s, k58, og_in (by omega) (by omega), i_cl (by omega), up_s]
theorem s_put {v : V_St} {f : Nat → Int32} {n s : Nat} (I : INV v n s) (R : REL v f n s) (x : Int32) : SIM v (f_St_shelvePage x v) (f_Md_whyNotPutAway x f) (f_Md_putAwayOn x f) := by
  have I' := I
  have R' := R
  obtain ⟨⟨w1, w2, w3⟩, i2, i3, i4, i5, i6, i7, i8, i9⟩ := I
  obtain ⟨⟨l1, l2, l3, l4⟩, r2, r3, r4, r5, r6, r7, r8, r9, r10⟩ := R
  have h300 := VL_300 w2
  have h16 := nwk_16 n w2
  rcases pg_arg x with ⟨p, hp, rfl⟩ | ⟨a1, a2⟩
  rotate_left
  · refine SIM_e (-1) (by decide) ?_ ?_
    · unfold f_St_shelvePage; rw [a1, oc_s, ob_rfl]
    · unfold f_Md_whyNotPutAway; rw [a2, oc_s, ob_rfl]
  by_cases c2 : mdg v = 0
  rotate_left
  · refine SIM_e (-5) (by decide) ?_ ?_
    · unfold f_St_shelvePage; rw [c_isPage hp, oc_s, ob_not d10, ob_f c2]
    · unfold f_Md_whyNotPutAway; rw [r_isPage hp, oc_s, ob_not d10, k59, og_in (by omega) (by omega), i_cl (by omega), r4, ob_t (i5.resolve_left c2)]
  obtain ⟨p1, p2, p3, p4⟩ := r2 p hp
  by_cases c3 : hnd v.1 p
  rotate_left
  · refine SIM_e (-5) (by decide) ?_ ?_
    · unfold f_St_shelvePage; rw [c_isPage hp, oc_s, ob_not d10, ob_t c2, c_inHandN hp c3, oc_s, ob_rfl]
    · unfold f_Md_whyNotPutAway; rw [r_isPage hp, oc_s, ob_not d10, k59, og_in (by omega) (by omega), i_cl (by omega), r4, c2, ob_not d01, k16, i_add, og_in (by omega) (by omega), i_cl (by omega), p4 c3, ob_rfl]
  obtain ⟨p5, p6, p7⟩ := p3 c3
  obtain ⟨g1, g2, g3⟩ := i4 p hp
  obtain ⟨⟨m, g4, g5⟩, g6⟩ := g3 c3
  have I2 := INV_sv (m := max s m) I' c2 (by omega) (by omega)
  have R2 := REL_sv (m := max s m) R' c2 h16
  refine Or.inr ⟨nI (max s m), ((upd v.1.1 p (v.1.2.2.1 p), upd v.1.2.1 p (v.1.2.2.2.1 p), v.1.2.2.1, v.1.2.2.2.1, v.1.2.2.2.2), svD v.2.1 (max s m), v.2.2), upd (upd (upd f 58 (nI (max s m))) p (v.1.2.2.1 p)) (8 + p) (v.1.2.2.2.1 p), n, max s m, nI_pos' (by omega), ?_, ?_, ?_, ?_, ?_⟩
  · unfold f_St_shelvePage
    rw [c_isPage hp, oc_s, ob_not d10, ob_t c2, c_inHand hp c3, oc_s, ob_not d10, c_marH hp c3, oc_s, g5, c_save i2 (by omega) (by omega), oc_s, c_shelve hp c3, oc_s, g5]
  · unfold f_Md_whyNotPutAway
    rw [r_isPage hp, oc_s, ob_not d10, k59, og_in (by omega) (by omega), i_cl (by omega), r4, c2, ob_not d01, k16, i_add, og_in (by omega) (by omega), i_cl (by omega), p5, ob_not d10]
  · unfold f_Md_putAwayOn
    rw [k32, i_add, og_in (by omega) (by omega), i_cl (by omega), p7, g5, r_save r3 (by omega) (by omega), oc_s, k24, i_add, og_in (by omega) (by omega), i_cl (by omega), k0, i_add, Nat.zero_add, og_in (by omega) (by omega), i_cl (by omega), nx_s, og_in (by omega) (by omega), k8, i_add, og_in (by omega) (by omega), i_cl (by omega), nx_s, k58, og_in (by omega) (by omega), i_cl (by omega)]
    have e1 : upd f 58 (nI (max s m)) (24 + p) = v.1.2.2.1 p := by rw [up_n _ _ (by omega), p6]
    have e2 : ∀ z, upd (upd f 58 (nI (max s m))) p z (32 + p) = nI m := fun z => by rw [up_n _ _ (by omega), up_n _ _ (by omega), p7, g5]
    have e3 : ∀ z z2, upd (upd (upd f 58 (nI (max s m))) p z) (8 + p) z2 58 = nI (max s m) := fun z z2 => by rw [up_n _ _ (by omega), up_n _ _ (by omega), up_s]
    rw [e3, e1, e2]
  · obtain ⟨j1, j2, j3, j4, j5, j6, j7, j8, j9⟩ := I2
    refine ⟨j1, j2, j3, fun q hq => ?_, j5, j6, j7, fun z => absurd (c2.symm.trans z) d01, fun z => absurd (c2.symm.trans z) d01⟩
    obtain ⟨y1, y2, y3⟩ := j4 q hq
    by_cases e : q = p
    · subst e
      refine ⟨⟨m, by omega, ?_⟩, ?_, y3⟩
      · show upd _ _ _ _ = _
        rw [up_s, g5]
      · show 0 ≤ upd _ _ _ _
        rw [up_s]
        exact g6
    · refine ⟨?_, ?_, y3⟩
      · show ∃ k, k ≤ _ ∧ upd _ _ _ _ = _
        rw [up_n _ _ e]
        exact y1
      · show 0 ≤ upd _ _ _ _
        rw [up_n _ _ e]
        exact y2
  · obtain ⟨q1, q2, q3, q4, q5, q6, q7, q8, q9, q10⟩ := R2
    have e4 : ∀ j, j ≠ p → j ≠ 8 + p → upd (upd (upd f 58 (nI (max s m))) p (v.1.2.2.1 p)) (8 + p) (v.1.2.2.2.1 p) j = upd f 58 (nI (max s m)) j := fun j a b => by rw [up_n _ _ b, up_n _ _ a]
    refine ⟨RL_cg q1 (fun j a b => by rw [up_n _ _ (by omega), up_n _ _ (by omega)]) (fun j a => by rw [up_n _ _ (by omega), up_n _ _ (by omega)]) h16, fun q hq => ?_, ?_, ?_, ?_, ?_, ?_, ?_, fun z => ?_, fun z => absurd (c2.symm.trans z) d01⟩
    · obtain ⟨y1, y2, y3, y4⟩ := q2 q hq
      refine ⟨?_, ?_, fun z => ?_, fun z => ?_⟩
      · show _ = upd _ _ _ _
        by_cases e : q = p
        · subst e
          rw [up_n _ _ (by omega), up_s, up_s]
        · rw [up_n _ _ (by omega), up_n _ _ e, up_n _ _ e]
          exact y1
      · show _ = upd _ _ _ _
        by_cases e : q = p
        · subst e
          rw [up_s, up_s]
        · rw [up_n _ _ (by omega), up_n _ _ (by omega), up_n _ _ e]
          exact y2
      · have := y3 z
        rw [e4 _ (by omega) (by omega), e4 _ (by omega) (by omega), e4 _ (by omega) (by omega)]
        exact this
      · have := y4 z
        rw [e4 _ (by omega) (by omega)]
        exact this
    · rw [up_n _ _ (by omega), up_n _ _ (by omega)]; exact q3
    · rw [up_n _ _ (by omega), up_n _ _ (by omega)]; exact q4
    · rw [up_n _ _ (by omega), up_n _ _ (by omega)]; exact q5
    · rw [up_n _ _ (by omega), up_n _ _ (by omega)]; exact q6
    · rw [up_n _ _ (by omega), up_n _ _ (by omega)]; exact q7
    · rw [up_n _ _ (by omega), up_n _ _ (by omega)]; exact q8
    · rw [up_n _ _ (by omega), up_n _ _ (by omega)]; exact q9 z
