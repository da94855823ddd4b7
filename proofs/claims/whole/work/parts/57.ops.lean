/-! ===== PURE 8: the calls side by side, outside mending ===== -/
theorem pgs_bt {L : Nat → E7} {x : Int32} {p : Nat} (hp : p < 8) : ∀ n, VL L n → (bt (pgs L x n) p = true ↔ wrote L x (nI p) n)
  | 0, _ => by
    constructor
    · intro h
      have : pgs L x 0 = 0 := rfl
      rw [this, b_0] at h
      cases h
    · rintro ⟨i, a, b, -⟩
      omega
  | n + 1, h => by
    have ih := pgs_bt (x := x) hp n h.1
    by_cases k : (L (n + 1)).2.1 = x ∧ (L (n + 1)).1 = 1
    · obtain ⟨q, hq1, hq2⟩ := (vent_1 h.2 k.2).2.2.2.1
      rw [pgs_hit k.1 k.2, hq2, hb_or _ (by omega) (by omega), Bool.or_eq_true, ih, decide_eq_true_eq]
      constructor
      · rintro (⟨i, a, b, c⟩ | e)
        · exact ⟨i, a, by omega, c⟩
        · exact ⟨n + 1, by omega, Nat.le_refl _, k.1, k.2, by rw [hq2, e]⟩
      · rintro ⟨i, a, b, c, d, e⟩
        by_cases z : i = n + 1
        · subst z
          exact Or.inr (i_inj (by omega) (by omega) (e.symm.trans hq2))
        · exact Or.inl ⟨i, a, by omega, c, d, e⟩
    · rw [pgs_miss k, ih]
      constructor
      · rintro ⟨i, a, b, c⟩
        exact ⟨i, a, by omega, c⟩
      · rintro ⟨i, a, b, c, d, e⟩
        by_cases z : i = n + 1
        · subst z
          exact absurd ⟨c, d⟩ k
        · exact ⟨i, a, by omega, c, d, e⟩
theorem opn_back {L : Nat → E7} {n : Nat} {x : Int32} (h : opn L x (n + 1)) (k : ¬ (L (n + 1)).2.1 = x) : opn L x n := by
  unfold opn at h ⊢
  rw [lst_miss k] at h
  exact h
/-- two open works don't write on one page -/
theorem excl {L : Nat → E7} : ∀ n, VL L n → ∀ x y z, x ≠ y → opn L x n → opn L y n → wrote L x z n → wrote L y z n → False
  | 0, _, x, y, z, _, h, _, _, _ => by have := h.1; simp [lst] at this
  | n + 1, h, x, y, z, hxy, ox, oy, ⟨i, a, b, c, d, e⟩, ⟨j, a', b', c', d', e'⟩ => by
    have hv := h.2
    by_cases kx : (L (n + 1)).2.1 = x
    · have ky : ¬ (L (n + 1)).2.1 = y := fun q => hxy (kx.symm.trans q)
      have oy' := opn_back oy ky
      have wy : wrote L y z n := ⟨j, a', by
        by_cases q : j = n + 1
        · subst q; exact absurd c' ky
        · omega, c', d', e'⟩
      by_cases k0 : (L (n + 1)).1 = 0
      · have hz : lst L x n = 0 := by rw [← kx, (vent_0 hv k0).1]; exact wk_new h.1
        by_cases q : i = n + 1
        · subst q; exact d01 (k0.symm.trans d)
        · have := lst_ge L x (n := n) a (by omega) c
          omega
      · have ox' : opn L x n := by have := vent_o hv k0; rw [kx] at this; exact this
        by_cases q : i = n + 1
        · subst q
          refine (vent_1 hv d).2.2.2.2.2.2.2 y (fun q => hxy (kx.symm.trans q.symm)) oy' ?_
          rw [e]
          exact wy
        · exact excl n h.1 x y z hxy ox' oy' ⟨i, a, by omega, c, d, e⟩ wy
    · have ox' := opn_back ox kx
      have wx : wrote L x z n := ⟨i, a, by
        by_cases q : i = n + 1
        · subst q; exact absurd c kx
        · omega, c, d, e⟩
      by_cases ky : (L (n + 1)).2.1 = y
      · by_cases k0 : (L (n + 1)).1 = 0
        · have hz : lst L y n = 0 := by rw [← ky, (vent_0 hv k0).1]; exact wk_new h.1
          by_cases q : j = n + 1
          · subst q; exact d01 (k0.symm.trans d')
          · have := lst_ge L y (n := n) a' (by omega) c'
            omega
        · have oy' : opn L y n := by have := vent_o hv k0; rw [ky] at this; exact this
          by_cases q : j = n + 1
          · subst q
            refine (vent_1 hv d').2.2.2.2.2.2.2 x (fun q => hxy (q.trans ky)) ox' ?_
            rw [e']
            exact wx
          · exact excl n h.1 x y z hxy ox' oy' wx ⟨j, a', by omega, c', d', e'⟩
      · exact excl n h.1 x y z hxy ox' (opn_back oy ky) wx ⟨j, a', by
          by_cases q : j = n + 1
          · subst q; exact absurd c' ky
          · omega, c', d', e'⟩
abbrev mdg (v : V_St) : Int32 := v.2.2.2.1
abbrev bgn (v : V_St) : Int32 := v.2.2.2.2.1
abbrev agn (v : V_St) : Int32 := v.2.2.2.2.2.1
abbrev flo (v : V_St) : Int32 := v.2.2.2.2.2.2.1
abbrev stp (v : V_St) : Int32 := v.2.2.2.2.2.2.2.1
abbrev los (v : V_St) : Int32 := v.2.2.2.2.2.2.2.2
def PGI (g : V_Pg) (n s : Nat) : Prop := ∀ p, p < 8 → (∃ k, k ≤ s ∧ g.2.1 p = nI k) ∧ 0 ≤ g.1 p ∧ (hnd g p → (∃ k, k ≤ n ∧ g.2.2.2.1 p = nI k) ∧ 0 ≤ g.2.2.1 p)
abbrev isCh (e : E7) : Prop := e.1 = 1 ∨ e.1 = 2
def INV (v : V_St) (n s : Nat) : Prop := WFL v n ∧ dsv v.2.1 = nI s ∧ s ≤ n ∧ PGI v.1 n s ∧ (mdg v = 0 ∨ mdg v = 1) ∧ (bgn v = 0 ∨ bgn v = 1) ∧ (mdg v = 0 → ∀ x, opn (lgD v.2.1) x n → nob (lgD v.2.1) x n) ∧ (mdg v = 1 → bgn v = 0 → s = n ∧ agn v = 1 ∧ ∀ p, p < 8 → ¬ hnd v.1 p) ∧ (mdg v = 1 → ∃ a, agn v = nI a ∧ 1 ≤ a ∧ a ≤ s + 1)
def REL (v : V_St) (f : Nat → Int32) (n s : Nat) : Prop := RL (lgD v.2.1) n f ∧ PGR v.1 f ∧ f 58 = nI s ∧ f 59 = mdg v ∧ f 60 = bgn v ∧ f 63 = flo v ∧ f 64 = stp v ∧ f 65 = los v ∧ (bgn v = 0 → (f 66 = 1 ↔ mdg v = 1)) ∧ (mdg v = 1 → bgn v = 1 → f 61 = nI s ∧ ∃ d a, f 62 = nI d ∧ agn v = nI a ∧ d < a ∧ a ≤ s + 1 ∧ ∀ i, d < i → i < a → ¬ isCh (lgD v.2.1 i))
theorem PGI_chg {g : V_Pg} {n n' s p k : Nat} (hp : p < 8) (h : PGI g n s) (hn : n ≤ n') (hk : k ≤ n') {x : Int32} (hx : 0 ≤ x) : PGI (chg g p x (nI k)) n' s := by
  intro q hq
  obtain ⟨a, b, c⟩ := h q hq
  refine ⟨a, b, fun z => ?_⟩
  by_cases e : q = p
  · subst e
    exact ⟨⟨k, hk, up_s _ _ _⟩, by show 0 ≤ upd _ _ _ _; rw [up_s]; exact hx⟩
  · obtain ⟨⟨k', c1, c2⟩, c3⟩ := c (((chg_h hp hq g _ _).mp z).resolve_right e)
    exact ⟨⟨k', by omega, (up_n _ _ e).trans c2⟩, by show 0 ≤ upd _ _ _ _; rw [up_n _ _ e]; exact c3⟩
theorem PGI_tkh {g : V_Pg} {n s p : Nat} (hp : p < 8) (hs : s ≤ n) (h : PGI g n s) : PGI (tkh g p) n s ∧ hnd (tkh g p) p := by
  unfold tkh
  by_cases q : hnd g p
  · rw [ob_t q]; exact ⟨h, q⟩
  · rw [ob_f q]
    obtain ⟨⟨k, a1, a2⟩, b, c⟩ := h p hp
    rw [a2]
    exact ⟨PGI_chg hp h (Nat.le_refl _) (by omega) b, (chg_h hp hp _ _ _).mpr (Or.inr rfl)⟩
theorem r_in {x : Int32} {a b : Int64} (h : a.toInt ≤ x.toInt ∧ x.toInt ≤ b.toInt) : f_Md_in x.toInt64 a b = some 1 := by
  unfold f_Md_in
  rw [ob_f, ob_f]
  · rw [lg_cmp_gt, Int64.lt_iff_toInt_lt, Int32.toInt_toInt64]; omega
  · rw [lg_cmp_lt, Int64.lt_iff_toInt_lt, Int32.toInt_toInt64]; omega
theorem r_inN {x : Int32} {a b : Int64} (h : ¬ (a.toInt ≤ x.toInt ∧ x.toInt ≤ b.toInt)) : f_Md_in x.toInt64 a b = some 0 := by
  unfold f_Md_in
  by_cases q : a.toInt ≤ x.toInt
  · rw [ob_f (by rw [lg_cmp_lt, Int64.lt_iff_toInt_lt, Int32.toInt_toInt64]; omega), ob_t (by rw [lg_cmp_gt, Int64.lt_iff_toInt_lt, Int32.toInt_toInt64]; omega)]
  · rw [ob_t (by rw [lg_cmp_lt, Int64.lt_iff_toInt_lt, Int32.toInt_toInt64]; omega)]
theorem i_tI {n : Nat} (h : n < 2147483648) : (nI n).toInt = (n : Int) := nI_toInt (by omega)
theorem i_negI {x : Int32} (h : x < 0) : x.toInt < 0 := by
  rw [Int32.lt_iff_toInt_lt] at h
  simpa using h
theorem r_isPage {p : Nat} (h : p < 8) : f_Md_isPage (nI p) = some 1 := by
  unfold f_Md_isPage
  rw [r_in, oc_s, og_t (Or.inr rfl)]
  rw [i_tI (by omega)]
  exact ⟨by show (0 : Int) ≤ _; omega, by show _ ≤ (7 : Int); omega⟩
theorem r_isPageN {p : Nat} (h : 8 ≤ p) (h2 : p < 2147483648) : f_Md_isPage (nI p) = some 0 := by
  unfold f_Md_isPage
  rw [r_inN, oc_s, og_t (Or.inl rfl)]
  rw [i_tI (by omega)]
  rintro ⟨a, b⟩
  have : (p : Int) ≤ 7 := b
  omega
theorem r_isPageM {x : Int32} (h : x < 0) : f_Md_isPage x = some 0 := by
  unfold f_Md_isPage
  rw [r_inN, oc_s, og_t (Or.inl rfl)]
  rintro ⟨a, b⟩
  have : (0 : Int) ≤ x.toInt := a
  have := i_negI h
  omega
section RW
variable {f : Nat → Int32} {n : Nat}
theorem r_isWork (h : f 56 = nI n) (h16 : n ≤ 16) {w : Nat} (hw : w < n) : f_Md_isWork (nI w) f = some 1 := by
  unfold f_Md_isWork
  have e : nI n - (1 : Int32) = nI (n - 1) := by rw [kk1]; exact i_sub (by omega)
  rw [k56, og_in (by omega) (by omega), i_cl (by omega), h, e, r_in, oc_s, og_t (Or.inr rfl)]
  rw [i_tI (by omega), Int32.toInt_toInt64, i_tI (by omega)]
  exact ⟨by show (0 : Int) ≤ _; omega, by omega⟩
theorem r_isWorkN (h : f 56 = nI n) (h16 : n ≤ 16) {w : Nat} (hw : n ≤ w) (h2 : w < 2147483648) : f_Md_isWork (nI w) f = some 0 := by
  unfold f_Md_isWork
  rw [k56, og_in (by omega) (by omega), i_cl (by omega), h, r_inN, oc_s, og_t (Or.inl rfl)]
  rw [i_tI (by omega), Int32.toInt_toInt64]
  rintro ⟨a, b⟩
  by_cases z : n = 0
  · subst z
    have : (nI 0 - 1 : Int32).toInt = -1 := by decide
    omega
  · rw [kk1, i_sub (by omega), i_tI (by omega)] at b
    omega
theorem r_isWorkM (h : f 56 = nI n) (h16 : n ≤ 16) {x : Int32} (hx : x < 0) : f_Md_isWork x f = some 0 := by
  unfold f_Md_isWork
  rw [k56, og_in (by omega) (by omega), i_cl (by omega), r_inN, oc_s, og_t (Or.inl rfl)]
  rintro ⟨a, b⟩
  have : (0 : Int) ≤ x.toInt := a
  have := i_negI hx
  omega
end RW
theorem c_full {d : V_Dy} {n : Nat} (hn : dsz d = nI n) (h3 : n ≤ 300) (h : 150 ≤ n) : f_Dy_isFull d = some 1 := by
  unfold f_Dy_isFull
  unfold dsz at hn
  rw [hn, k150, ob_ltf h (by omega)]
theorem c_fullN {d : V_Dy} {n : Nat} (hn : dsz d = nI n) (h : n < 150) : f_Dy_isFull d = some 0 := by
  unfold f_Dy_isFull
  unfold dsz at hn
  rw [hn, k150, ob_ltt h (by omega)]
/-- entering in the reference: the row behind it -/
theorem REL_add {v : V_St} {f f' : Nat → Int32} {n s : Nat} {g' : V_Pg} {e : E7} {k' : V_Wk} (R : REL v f n s) (h0 : mdg v = 0) (hR : RL (lgD (addE v.2.1 n e)) (n + 1) f') (hP : PGR g' f') (hj : ∀ j, 58 ≤ j → j < 67 → f' j = f j) : REL (g', addE v.2.1 n e, k', v.2.2.2) f' (n + 1) s := by
  obtain ⟨r1, r2, r3, r4, r5, r6, r7, r8, r9, r10⟩ := R
  refine ⟨hR, hP, ?_, ?_, ?_, ?_, ?_, ?_, fun q => ?_, fun q => ?_⟩
  · rw [hj 58 (by omega) (by omega)]; exact r3
  · rw [hj 59 (by omega) (by omega)]; exact r4
  · rw [hj 60 (by omega) (by omega)]; exact r5
  · rw [hj 63 (by omega) (by omega)]; exact r6
  · rw [hj 64 (by omega) (by omega)]; exact r7
  · rw [hj 65 (by omega) (by omega)]; exact r8
  · rw [hj 66 (by omega) (by omega)]; exact r9 q
  · exact absurd (h0.symm.trans q) d01
theorem INV_add {v : V_St} {n s : Nat} {g' : V_Pg} {e : E7} {k' : V_Wk} (I : INV v n s) (h0 : mdg v = 0) (hW : WFL (g', addE v.2.1 n e, k', v.2.2.2) (n + 1)) (hP : PGI g' (n + 1) s) (hb : ∀ x, opn (lgD (addE v.2.1 n e)) x (n + 1) → nob (lgD (addE v.2.1 n e)) x (n + 1)) : INV (g', addE v.2.1 n e, k', v.2.2.2) (n + 1) s := by
  obtain ⟨i1, i2, i3, i4, i5, i6, i7, i8, i9⟩ := I
  exact ⟨hW, i2, by omega, hP, i5, i6, fun _ => hb, fun q => absurd (h0.symm.trans q) d01, fun q => absurd (h0.symm.trans q) d01⟩
/-- no work that is open has a BACK, behind an entry of kind 0, 1 or 3 -/
theorem nob_add {d : V_Dy} {n : Nat} {e : E7} (hk : e.1 = 0 ∨ e.1 = 1 ∨ e.1 = 3) (hb : ∀ x, opn (lgD d) x n → nob (lgD d) x n) : ∀ x, opn (lgD (addE d n e)) x (n + 1) → nob (lgD (addE d n e)) x (n + 1) := by
  intro x ho
  have hg : ∀ i, 1 ≤ i → i ≤ n → lgD d i = lgD (addE d n e) i := fun i a b => (lgD_old d n e (by omega)).symm
  by_cases q : (lgD (addE d n e) (n + 1)).2.1 = x
  · have hl := lst_hit q
    unfold nob
    rw [hl, lgD_new]
    rcases hk with k | k | k
    · exact Or.inl k
    · exact Or.inr k
    · exact absurd (by rw [hl, lgD_new]; exact k) ho.2.1
  · have ho2 := (opn_cg hg).mpr (opn_back ho q)
    have hn := hb x ho2
    unfold nob at hn ⊢
    rw [lst_miss q, ← lst_cg x n hg, ← hg _ ho2.1 (lst_le _ _ _)]
    exact hn
/-- what a call does: an error alike on both sides, or an answer alike and states that agree again -/
def SIM (v : V_St) (fc : Option (Int32 × V_St)) (why : Option Int32) (fr : Option (Int32 × (Nat → Int32))) : Prop :=
  (∃ e : Int32, e < 0 ∧ fc = some (e, v) ∧ why = some e) ∨
  (∃ (a : Int32) (v' : V_St) (f' : Nat → Int32) (n' s' : Nat), 0 ≤ a ∧ fc = some (a, v') ∧ why = some 0 ∧ fr = some (a, f') ∧ INV v' n' s' ∧ REL v' f' n' s')
theorem SIM_e {v : V_St} {fc : Option (Int32 × V_St)} {why : Option Int32} {fr : Option (Int32 × (Nat → Int32))} (e : Int32) (he : e < 0) (h1 : fc = some (e, v)) (h2 : why = some e) : SIM v fc why fr := Or.inl ⟨e, he, h1, h2⟩
theorem s_begin {v : V_St} {f : Nat → Int32} {n s : Nat} (I : INV v n s) (R : REL v f n s) : SIM v (f_St_beginWork v) (f_Md_whyNotBegin f) (f_Md_beginOn f) := by
  have I' := I
  have R' := R
  obtain ⟨⟨w1, w2, w3⟩, i2, i3, i4, i5, i6, i7, i8, i9⟩ := I
  obtain ⟨⟨l1, l2, l3, l4⟩, r2, r3, r4, r5, r6, r7, r8, r9, r10⟩ := R
  have h300 := VL_300 w2
  have h16 := nwk_16 n w2
  have hws : v.2.2.1.2.2.2.2.2 = nI (nwk (lgD v.2.1) n) := w3.1
  by_cases a1 : nwk (lgD v.2.1) n = 16
  · refine SIM_e (-4) (by decide) ?_ ?_
    · unfold f_St_beginWork f_Wk_isFull
      rw [hws, k16, ob_ltf (by omega) (by omega), oc_s, ob_not d10]
    · unfold f_Md_whyNotBegin
      rw [k56, og_in (by omega) (by omega), i_cl (by omega), l3, k16, ob_eqt a1]
  · by_cases a2 : 150 ≤ n
    · refine SIM_e (-4) (by decide) ?_ ?_
      · unfold f_St_beginWork f_Wk_isFull
        rw [hws, k16, ob_ltt (by omega) (by omega), oc_s, ob_rfl, c_full w1 h300 a2, oc_s, ob_not d10]
      · unfold f_Md_whyNotBegin
        rw [k56, og_in (by omega) (by omega), i_cl (by omega), l3, k16, ob_eqf a1 (by omega) (by omega), k57, og_in (by omega) (by omega), i_cl (by omega), l2, k150, ob_ltf (by omega) (by omega)]
    · by_cases a3 : mdg v = 0
      · -- it begins
        have hv : vent (lgD v.2.1) n (ent6 0 (nI (nwk (lgD v.2.1) n)) 0) := ⟨by rw [wk_new w2], Or.inl ⟨rfl, rfl, by omega, by omega, rfl, rfl, rfl, rfl⟩⟩
        obtain ⟨k', t1, t2⟩ := c_enter (e := ent6 0 (nI (nwk (lgD v.2.1) n)) 0) ⟨w1, w2, w3⟩ hv (by show _ = ent6 0 _ (lst (lgD v.2.1) (nI (nwk (lgD v.2.1) n)) n); rw [wk_new w2])
        refine Or.inr ⟨nI (nwk (lgD v.2.1) n), (v.1, addE v.2.1 n (ent6 0 (nI (nwk (lgD v.2.1) n)) 0), k', v.2.2.2), addR (upd (upd f (40 + nwk (lgD v.2.1) n) 0) 56 (nI (nwk (lgD v.2.1) n + 1))) n (ent6 0 (nI (nwk (lgD v.2.1) n)) 0), n + 1, s, nI_pos' (by omega), ?_, ?_, ?_, ?_, ?_⟩
        · unfold f_St_beginWork f_Wk_isFull
          rw [hws, k16, ob_ltt (by omega) (by omega), oc_s, ob_rfl, c_fullN w1 (by omega), oc_s, ob_rfl, ob_t a3, t1, oc_s]
        · unfold f_Md_whyNotBegin
          rw [k56, og_in (by omega) (by omega), i_cl (by omega), l3, k16, ob_eqf a1 (by omega) (by omega), k57, og_in (by omega) (by omega), i_cl (by omega), l2, k150, ob_ltt (by omega) (by omega), k59, og_in (by omega) (by omega), i_cl (by omega), r4, a3, ob_f d01]
        · have e57 : upd (upd f (40 + nwk (lgD v.2.1) n) 0) 56 (nI (nwk (lgD v.2.1) n + 1)) 57 = nI n := by
            rw [up_n _ _ (by omega), up_n _ _ (by omega)]; exact l2
          have en : nwk (lgR (upd (upd f (40 + nwk (lgD v.2.1) n) 0) 56 (nI (nwk (lgD v.2.1) n + 1)))) n = nwk (lgD v.2.1) n := by
            refine (nwk_cg n (fun i a b => ?_)).symm
            rw [l1 i a b]
            unfold lgR
            simp (disch := omega) only [up_n]
          have el : lst (lgR (upd (upd f (40 + nwk (lgD v.2.1) n) 0) 56 (nI (nwk (lgD v.2.1) n + 1)))) (nI (nwk (lgD v.2.1) n)) n = 0 := by
            rw [← wk_new w2]
            refine (lst_cg _ n (fun i a b => ?_)).symm
            rw [l1 i a b]
            unfold lgR
            simp (disch := omega) only [up_n]
          unfold f_Md_beginOn
          rw [k56, og_in (by omega) (by omega), i_cl (by omega), l3, k40, i_add, og_in (by omega) (by omega), i_cl (by omega), nx_s, og_in (by omega) (by omega), og_in (by omega) (by omega), up_n _ _ (by omega), l3, kk1, i_add, nx_s, r_enter e57 (by omega) _ _ _ _ _ _ (fun _ => el), oc_s, el]
        · exact INV_add I' a3 t2 (fun p hp => by
            obtain ⟨x, y, z⟩ := i4 p hp
            exact ⟨x, y, fun q => ⟨by obtain ⟨⟨k, z1, z2⟩, -⟩ := z q; exact ⟨k, by omega, z2⟩, (z q).2⟩⟩) (nob_add (Or.inl rfl) (i7 a3))
        · have hg : ∀ i, 1 ≤ i → i ≤ n → lgD v.2.1 i = lgD (addE v.2.1 n (ent6 0 (nI (nwk (lgD v.2.1) n)) 0)) i := fun i a b => (lgD_old _ _ _ (by omega)).symm
          have hk : nwk (lgD (addE v.2.1 n (ent6 0 (nI (nwk (lgD v.2.1) n)) 0))) (n + 1) = nwk (lgD v.2.1) n + 1 := by
            rw [nwk_b (by rw [lgD_new])]
            exact congrArg (fun z => z + 1) (nwk_cg n hg).symm
          refine REL_add R' a3 (RL_add w2 hv ⟨l1, l2, l3, l4⟩ hg (lgD_new _ _ _) (addR_57 _ _ _) ?_ ?_ ?_ ?_) (PGR_cg r2 ?_) ?_
          · rw [hk, addR_lo _ _ _ (by omega) (by omega), up_s]
          · intro i a b
            by_cases q : i = n + 1
            · subst q; rw [addR_new, addR_new]
            · rw [addR_old _ _ _ a (by omega), addR_old _ _ _ a (by omega)]
              unfold lgR
              simp (disch := omega) only [up_n]
          · intro w hw1 hw2
            rw [hk] at hw1
            have : w = nwk (lgD v.2.1) n := i_inj (by omega) (by omega) hw2.symm
            subst this
            rw [addR_lo _ _ _ (by omega) (by omega), up_n _ _ (by omega), up_s]
            rfl
          · intro w hw1 hw2
            rw [addR_lo _ _ _ (by omega) (by omega), up_n _ _ (by omega), up_n _ _ (by omega)]
          · intro j hj
            rw [addR_lo _ _ _ (by omega) (by omega), up_n _ _ (by omega), up_n _ _ (by omega)]
          · intro j j1 j2
            rw [addR_lo _ _ _ (by omega) (by omega), up_n _ _ (by omega), up_n _ _ (by omega)]
      · refine SIM_e (-5) (by decide) ?_ ?_
        · unfold f_St_beginWork f_Wk_isFull
          rw [hws, k16, ob_ltt (by omega) (by omega), oc_s, ob_rfl, c_fullN w1 (by omega), oc_s, ob_rfl, ob_f a3]
        · unfold f_Md_whyNotBegin
          rw [k56, og_in (by omega) (by omega), i_cl (by omega), l3, k16, ob_eqf a1 (by omega) (by omega), k57, og_in (by omega) (by omega), i_cl (by omega), l2, k150, ob_ltt (by omega) (by omega), k59, og_in (by omega) (by omega), i_cl (by omega), r4, i5.resolve_left a3, ob_rfl]
