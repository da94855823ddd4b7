/-! ===== PURE 9: arguments; writing ===== -/
theorem pg_arg (x : Int32) : (∃ p : Nat, p < 8 ∧ x = nI p) ∨ (f_Fd_isPage x = some 0 ∧ f_Md_isPage x = some 0) := by
  rcases i_cases x with h | ⟨j, h1, rfl⟩
  · exact Or.inr ⟨c_isPageM h, r_isPageM h⟩
  · by_cases q : j < 8
    · exact Or.inl ⟨j, q, rfl⟩
    · exact Or.inr ⟨c_isPageN (by omega) h1, r_isPageN (by omega) h1⟩
theorem wk_arg {L : Nat → E7} {n : Nat} {k : V_Wk} {f : Nat → Int32} (hW : WKS L n k) (h16 : nwk L n ≤ 16) (hf : f 56 = nI (nwk L n)) (x : Int32) : (∃ w : Nat, w < nwk L n ∧ x = nI w) ∨ (f_Wk_has x k = some 0 ∧ f_Md_isWork x f = some 0) := by
  rcases i_cases x with h | ⟨j, h1, rfl⟩
  · exact Or.inr ⟨c_whasM h, r_isWorkM hf h16 h⟩
  · by_cases q : j < nwk L n
    · exact Or.inl ⟨j, q, rfl⟩
    · exact Or.inr ⟨c_whasN hW h16 (by omega) h1, r_isWorkN hf h16 (by omega) h1⟩
theorem c_wholds {L : Nat → E7} {n w p : Nat} {k : V_Wk} (hW : WKS L n k) (hV : VL L n) (hw : w < nwk L n) (hp : p < 8) : (hol L n p w → f_Wk_holds (nI w) (nI p) k = some 1) ∧ (¬ hol L n p w → f_Wk_holds (nI w) (nI p) k = some 0) := by
  have h16 := nwk_16 n hV
  constructor
  · intro h
    unfold f_Wk_holds
    rw [c_wopen hW hV hw h.1, oc_s, ob_not d10, c_isPage hp, oc_s, ob_not d10, og_in (by omega) (by omega), i_cl (by omega), (hW.2 w hw).2.2.2.1, (opn_goo h.1).2.1, ob_t ((hb_iff _ (by omega)).mpr h.2)]
  · intro h
    unfold f_Wk_holds
    by_cases q : opn L (nI w) n
    · rw [c_wopen hW hV hw q, oc_s, ob_not d10, c_isPage hp, oc_s, ob_not d10, og_in (by omega) (by omega), i_cl (by omega), (hW.2 w hw).2.2.2.1, (opn_goo q).2.1, ob_f (fun z => h ⟨q, (hb_iff _ (by omega)).mp z⟩)]
    · rw [c_wopenN hW hV hw q, oc_s, ob_rfl]
theorem c_holder {L : Nat → E7} {n p : Nat} {k : V_Wk} (hW : WKS L n k) (hV : VL L n) (hp : p < 8) : f_Wk_holderOf (nI p) k = some (fw (hol L n p) 0 (nwk L n)) := by
  have h16 := nwk_16 n hV
  have key : ∀ j i m, i + j = nwk L n → j < m → f_Wk_holderOf_2 m (nI p) (nI i) k = some (fw (hol L n p) i j) := by
    intro j
    induction j with
    | zero =>
      intro i m hi hm
      obtain ⟨m, rfl⟩ : ∃ q, m = q + 1 := ⟨m - 1, by omega⟩
      rw [e_Wk_holderOf_2, hW.1, ob_let (by omega) (by omega)]
      rfl
    | succ j ih =>
      intro i m hi hm
      obtain ⟨m, rfl⟩ : ∃ q, m = q + 1 := ⟨m - 1, by omega⟩
      rw [e_Wk_holderOf_2, hW.1, ob_lef (by omega) (by omega)]
      unfold fw
      by_cases q : hol L n p i
      · rw [(c_wholds hW hV (by omega) hp).1 q, oc_s, ob_not d10, ob_t q]
      · rw [(c_wholds hW hV (by omega) hp).2 q, oc_s, ob_rfl, ob_f q, kk1, i_add]
        exact ih (i + 1) m (by omega) (by omega)
  unfold f_Wk_holderOf
  exact key _ 0 FU (by omega) (by unfold FU; omega)
theorem r_stop {f : Nat → Int32} {w : Nat} (hw : w < 16) : (f 59 = 1 ∨ ¬ f (40 + w) = 0 → f_Md_isStopped (nI w) f = some 1) ∧ (¬ f 59 = 1 → f (40 + w) = 0 → f_Md_isStopped (nI w) f = some 0) := by
  constructor
  · intro h
    unfold f_Md_isStopped
    rw [k59, og_in (by omega) (by omega), i_cl (by omega)]
    by_cases q : f 59 = 1
    · rw [ob_t q]
    · rw [ob_f q, k40, i_add, og_in (by omega) (by omega), i_cl (by omega), ob_f (h.resolve_left q)]
  · intro h1 h2
    unfold f_Md_isStopped
    rw [k59, og_in (by omega) (by omega), i_cl (by omega), ob_f h1, k40, i_add, og_in (by omega) (by omega), i_cl (by omega), ob_t h2]
theorem m6_ne (w : Nat) (h : w < 2147483648) : ¬ nI w = (-6 : Int32) := by
  intro q
  exact i_neg_ne (x := -6) (by decide) h q.symm
/-- a page that no other open work holds -/
theorem hol_ex {L : Nat → E7} {n w p : Nat} (hV : VL L n) (hp : p < 8) (hw : w < nwk L n) (h : fw (hol L n p) 0 (nwk L n) = -6 ∨ fw (hol L n p) 0 (nwk L n) = nI w) : ∀ x : Int32, x ≠ nI w → opn L x n → ¬ wrote L x (nI p) n := by
  have h16 := nwk_16 n hV
  intro x hx ho hwr
  obtain ⟨v, hv1, rfl⟩ := opn_lt hV ho
  have hh : hol L n p v := ⟨ho, (pgs_bt hp n hV).mpr hwr⟩
  rcases fw_or (c := hol L n p) (nwk L n) 0 with ⟨h1, h2⟩ | ⟨j, j1, j2, j3, j4⟩
  · exact h2 v (by omega) (by omega) hh
  · rcases h with h | h
    · exact m6_ne j (by omega) (j4.symm.trans h)
    · have : j = w := i_inj (by omega) (by omega) (j4.symm.trans h)
      subst this
      exact excl n hV (nI v) (nI j) (nI p) hx ho j3.1 hwr ((pgs_bt hp n hV).mp j3.2)
theorem nat_arg (x : Int32) : (x < 0 ∧ f_Md_in x.toInt64 0 999 = some 0) ∨ (∃ j : Nat, j ≤ 999 ∧ x = nI j ∧ f_Md_in x.toInt64 0 999 = some 1) ∨ (∃ j : Nat, 999 < j ∧ j < 2147483648 ∧ x = nI j ∧ f_Md_in x.toInt64 0 999 = some 0) := by
  rcases i_cases x with h | ⟨j, h1, rfl⟩
  · refine Or.inl ⟨h, r_inN ?_⟩
    rintro ⟨a, b⟩
    have : (0 : Int) ≤ x.toInt := a
    have := i_negI h
    omega
  · by_cases q : j ≤ 999
    · refine Or.inr (Or.inl ⟨j, q, rfl, r_in ?_⟩)
      rw [i_tI (by omega)]
      exact ⟨by show (0 : Int) ≤ _; omega, by show _ ≤ (999 : Int); omega⟩
    · refine Or.inr (Or.inr ⟨j, by omega, h1, rfl, r_inN ?_⟩)
      rw [i_tI (by omega)]
      rintro ⟨a, b⟩
      have : (j : Int) ≤ 999 := b
      omega
theorem RL_tk {L : Nat → E7} {n p : Nat} {f : Nat → Int32} (hp : p < 8) (h16 : nwk L n ≤ 16) (h : RL L n f) : RL L n (tkR f p) := RL_cg h (fun j a b => tkR_o hp (by omega)) (fun j a => tkR_o hp (by omega)) h16
theorem tkR_h {g : V_Pg} {f : Nat → Int32} {p : Nat} (hp : p < 8) (h : PGR g f) : hnd (tkh g p) p := by
  unfold tkh
  by_cases q : hnd g p
  · rw [ob_t q]; exact q
  · rw [ob_f q]; exact (chg_h hp hp _ _ _).mpr (Or.inr rfl)
theorem s_write {v : V_St} {f : Nat → Int32} {n s : Nat} (I : INV v n s) (R : REL v f n s) (x y z : Int32) : SIM v (f_St_writePage x y z v) (f_Md_whyNotWrite x y z f) (f_Md_writeOn x y z f) := by
  have I' := I
  have R' := R
  obtain ⟨⟨w1, w2, w3⟩, i2, i3, i4, i5, i6, i7, i8, i9⟩ := I
  obtain ⟨⟨l1, l2, l3, l4⟩, r2, r3, r4, r5, r6, r7, r8, r9, r10⟩ := R
  have h300 := VL_300 w2
  have h16 := nwk_16 n w2
  have hR := RL_R w2 ⟨l1, l2, l3, l4⟩
  have enk := nwk_cg n l1
  rcases wk_arg w3 h16 l3 x with ⟨w, hw, rfl⟩ | ⟨a1, a2⟩
  rotate_left
  · refine SIM_e (-1) (by decide) ?_ ?_
    · unfold f_St_writePage; rw [a1, oc_s, ob_rfl]
    · unfold f_Md_whyNotWrite; rw [a2, oc_s, ob_rfl]
  have b1 := c_whas w3 h16 hw
  have b2 := r_isWork l3 h16 hw
  rcases pg_arg y with ⟨p, hp, rfl⟩ | ⟨a1, a2⟩
  rotate_left
  · refine SIM_e (-1) (by decide) ?_ ?_
    · unfold f_St_writePage; rw [b1, oc_s, ob_not d10, a1, oc_s, ob_rfl]
    · unfold f_Md_whyNotWrite; rw [b2, oc_s, ob_not d10, a2, oc_s, ob_rfl]
  have b3 := c_isPage hp
  have b4 := r_isPage hp
  rcases nat_arg z with ⟨a1, a2⟩ | ⟨j, hj, rfl, a2⟩ | ⟨j, hj, hj2, rfl, a2⟩
  · refine SIM_e (-2) (by decide) ?_ ?_
    · unfold f_St_writePage; rw [b1, oc_s, ob_not d10, b3, oc_s, ob_not d10, ob_t a1]
    · unfold f_Md_whyNotWrite; rw [b2, oc_s, ob_not d10, b4, oc_s, ob_not d10, a2, oc_s, ob_rfl]
  rotate_left
  · refine SIM_e (-2) (by decide) ?_ ?_
    · unfold f_St_writePage; rw [b1, oc_s, ob_not d10, b3, oc_s, ob_not d10, k0, ob_ltf (by omega) (by omega), k999, ob_lef (by omega) (by omega)]
    · unfold f_Md_whyNotWrite; rw [b2, oc_s, ob_not d10, b4, oc_s, ob_not d10, a2, oc_s, ob_rfl]
  by_cases c1 : 150 ≤ n
  · refine SIM_e (-4) (by decide) ?_ ?_
    · unfold f_St_writePage; rw [b1, oc_s, ob_not d10, b3, oc_s, ob_not d10, k0, ob_ltf (by omega) (by omega), k999, ob_let (by omega) (by omega), c_full w1 h300 c1, oc_s, ← k0, ob_not d10]
    · unfold f_Md_whyNotWrite; rw [b2, oc_s, ob_not d10, b4, oc_s, ob_not d10, a2, oc_s, ob_not d10, k57, og_in (by omega) (by omega), i_cl (by omega), l2, k150, ob_ltf (by omega) (by omega)]
  have eC : f_St_writePage (nI w) (nI p) (nI j) v = ob (mdg v = 0) (oc (f_Wk_isOpen (nI w) v.2.2.1) (fun q_69 => ob (q_69 = 0) (some ((-5 : Int32), v)) (ob (fw (hol (lgD v.2.1) n p) 0 (nwk (lgD v.2.1) n) = (-6 : Int32)) (f_St_writePage_91 (nI w) (nI p) (nI j) v) (ob (fw (hol (lgD v.2.1) n p) 0 (nwk (lgD v.2.1) n) = nI w) (f_St_writePage_91 (nI w) (nI p) (nI j) v) (some ((-5 : Int32), v)))))) (some ((-5 : Int32), v)) := by
    unfold f_St_writePage
    rw [b1, oc_s, ob_not d10, b3, oc_s, ob_not d10, k0, ob_ltf (by omega) (by omega), k999, ob_let (by omega) (by omega), c_fullN w1 (by omega), oc_s, ← k0, ob_rfl, c_holder w3 w2 hp, oc_s]
  have eR : f_Md_whyNotWrite (nI w) (nI p) (nI j) f = oc (f_Md_isStopped (nI w) f) (fun q_54 => ob (q_54 = 0) (ob (fw (hol (lgD v.2.1) n p) 0 (nwk (lgD v.2.1) n) = (-6 : Int32)) (some (0 : Int32)) (ob (fw (hol (lgD v.2.1) n p) 0 (nwk (lgD v.2.1) n) = nI w) (some (0 : Int32)) (some (-5 : Int32)))) (some (-5 : Int32))) := by
    have e1 : fw (hol (lgR f) n p) 0 (nwk (lgR f) n) = fw (hol (lgD v.2.1) n p) 0 (nwk (lgD v.2.1) n) := by
      rw [← enk]
      refine fw_cg _ _ (fun i a b => ?_)
      unfold hol
      rw [opn_cg l1, pgs_cg (nI i) n l1]
    unfold f_Md_whyNotWrite
    rw [b2, oc_s, ob_not d10, b4, oc_s, ob_not d10, a2, oc_s, ob_not d10, k57, og_in (by omega) (by omega), i_cl (by omega), l2, k150, ob_ltt (by omega) (by omega), r_holder hR hp, oc_s, e1]
  rw [eC, eR]
  by_cases c2 : mdg v = 0
  rotate_left
  · refine SIM_e (-5) (by decide) (by rw [ob_f c2]) ?_
    rw [(r_stop (by omega)).1 (Or.inl (by rw [r4]; exact i5.resolve_left c2)), oc_s, ob_not d10]
  rw [ob_t c2]
  have h4 := l4 w hw
  by_cases c3 : opn (lgD v.2.1) (nI w) n
  rotate_left
  · refine SIM_e (-5) (by decide) (by rw [c_wopenN w3 w2 hw c3, oc_s, ob_rfl]) ?_
    rw [(r_stop (by omega)).1 (Or.inr (by rw [h4]; exact fun q => c3 ((sta_0 (wk_has n w2 w hw)).mp q))), oc_s, ob_not d10]
  rw [c_wopen w3 w2 hw c3, oc_s, ob_not d10, (r_stop (by omega)).2 (by rw [r4, c2]; exact d01) (by rw [h4, (opn_goo c3).2.2]), oc_s, ob_rfl]
  by_cases c4 : fw (hol (lgD v.2.1) n p) 0 (nwk (lgD v.2.1) n) = -6 ∨ fw (hol (lgD v.2.1) n p) 0 (nwk (lgD v.2.1) n) = nI w
  rotate_left
  · refine SIM_e (-5) (by decide) ?_ ?_
    · rw [ob_f (fun q => c4 (Or.inl q)), ob_f (fun q => c4 (Or.inr q))]
    · rw [ob_f (fun q => c4 (Or.inl q)), ob_f (fun q => c4 (Or.inr q))]
  have eC2 : ∀ {α : Type} (A B : α), ob (fw (hol (lgD v.2.1) n p) 0 (nwk (lgD v.2.1) n) = (-6 : Int32)) A (ob (fw (hol (lgD v.2.1) n p) 0 (nwk (lgD v.2.1) n) = nI w) A B) = A := by
    intro α A B
    by_cases q : fw (hol (lgD v.2.1) n p) 0 (nwk (lgD v.2.1) n) = -6
    · rw [ob_t q]
    · rw [ob_f q, ob_t (c4.resolve_left q)]
  rw [eC2, eC2]
  obtain ⟨g1, g2⟩ := PGI_tkh hp i3 i4
  obtain ⟨g3, g4, g5⟩ := g1 p hp
  obtain ⟨-, g6⟩ := g5 g2
  have gR := PGR_tk hp r2
  have gv := ((gR p hp).2.2.1 g2).2.1
  have hv : vent (lgD v.2.1) n (1, nI w, nI (lst (lgD v.2.1) (nI w) n), nI p, (tkh v.1 p).2.2.1 p, nI j, -6) := ⟨rfl, Or.inr (Or.inl ⟨rfl, c3, i7 c2 _ c3, by omega, ⟨p, hp, rfl⟩, g6, nI_pos' (by omega), rfl, hol_ex w2 hp hw c4⟩)⟩
  obtain ⟨k', t1, t2⟩ := c_enterP (v := (tkh v.1 p, v.2)) (p := p) (e := (1, nI w, nI (lst (lgD v.2.1) (nI w) n), nI p, (tkh v.1 p).2.2.1 p, nI j, -6)) ⟨w1, w2, w3⟩ hv hp rfl
  have RT := RL_tk hp h16 ⟨l1, l2, l3, l4⟩
  have eL : lst (lgR (tkR f p)) (nI w) n = lst (lgD v.2.1) (nI w) n := (lst_cg _ n RT.1).symm
  have hg : ∀ i, 1 ≤ i → i ≤ n → lgD v.2.1 i = lgD (addE v.2.1 n (1, nI w, nI (lst (lgD v.2.1) (nI w) n), nI p, (tkh v.1 p).2.2.1 p, nI j, -6)) i := fun i a b => (lgD_old _ _ _ (by omega)).symm
  have hk : nwk (lgD (addE v.2.1 n (1, nI w, nI (lst (lgD v.2.1) (nI w) n), nI p, (tkh v.1 p).2.2.1 p, nI j, -6))) (n + 1) = nwk (lgD v.2.1) n := by
    rw [nwk_n (by rw [lgD_new]; exact d10), nwk_cg n hg]
  refine Or.inr ⟨(tkh v.1 p).2.2.1 p, (chg (tkh v.1 p) p (nI j) (nI (n + 1)), addE v.2.1 n (1, nI w, nI (lst (lgD v.2.1) (nI w) n), nI p, (tkh v.1 p).2.2.1 p, nI j, -6), k', v.2.2.2), chR (addR (tkR f p) n (1, nI w, nI (lst (lgD v.2.1) (nI w) n), nI p, (tkh v.1 p).2.2.1 p, nI j, -6)) p (nI j) (nI (n + 1)), n + 1, s, g6, ?_, rfl, ?_, ?_, ?_⟩
  · unfold f_St_writePage_91
    rw [c_take hp, oc_s, c_valH hp g2, oc_s]
    have t3 : f_St_enterOnPage 1 (nI w) (nI p) ((tkh v.1 p).2.2.1 p) (nI j) (-6) (tkh v.1 p, v.2) = _ := t1
    exact (congrArg (fun o => oc o _) t3).trans oc_s
  · unfold f_Md_writeOn
    rw [r_take hp, oc_s, k24, i_add, og_in (by omega) (by omega), i_cl (by omega), gv, r_enter RT.2.1 (by omega) _ _ _ _ _ _ (fun q => absurd q d10), oc_s]
    simp only
    rw [r_change hp, oc_s, eL]
  · exact INV_add I' c2 t2 (PGI_chg hp (fun q hq => by
      obtain ⟨x1, x2, x3⟩ := g1 q hq
      exact ⟨x1, x2, x3⟩) (Nat.le_succ n) (Nat.le_refl _) (nI_pos' (by omega))) (nob_add (Or.inr (Or.inl rfl)) (i7 c2))
  · refine REL_add R' c2 (RL_add w2 hv RT hg (lgD_new _ _ _) ?_ ?_ ?_ ?_ ?_) ?_ ?_
    · rw [chR_o hp _ _ (by omega), addR_57]
    · rw [chR_o hp _ _ (by omega), addR_lo _ _ _ (by omega) (by omega), hk]; exact RT.2.2.1
    · intro i a b
      unfold lgR
      simp (disch := omega) only [chR_o hp]
    · intro u hu1 hu2
      rw [hk] at hu1
      have : u = w := i_inj (by omega) (by omega) hu2.symm
      subst this
      rw [chR_o hp _ _ (by omega), addR_lo _ _ _ (by omega) (by omega), RT.2.2.2 u hw, (opn_goo c3).2.2]
      rfl
    · intro u hu1 hu2
      rw [chR_o hp _ _ (by omega), addR_lo _ _ _ (by omega) (by omega)]
    · exact PGR_ch hp (PGR_cg gR (fun j hj => addR_lo _ _ _ (by omega) (by omega))) _ _
    · intro j j1 j2
      rw [chR_o hp _ _ (by omega), addR_lo _ _ _ (by omega) (by omega), tkR_o hp (by omega)]
