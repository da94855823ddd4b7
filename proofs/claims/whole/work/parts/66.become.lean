/-! ===== PURE 17: becoming another state ===== -/
theorem c_pgBecome (g u : V_Pg) : ∃ w, f_Pg_become g u = some w ∧ (∀ p, p < 8 → w.1 p = u.1 p ∧ w.2.1 p = u.2.1 p ∧ w.2.2.1 p = u.2.2.1 p ∧ w.2.2.2.1 p = u.2.2.2.1 p) ∧ w.2.2.2.2 = u.2.2.2.2 := by
  unfold f_Pg_become
  rw [og_t (by decide), nx_s, og_t (by decide), nx_s, og_t (by decide), nx_s, og_t (by decide), nx_s]
  exact ⟨_, rfl, fun p hp => ⟨cpy8 (N := 8) hp, cpy8 (N := 8) hp, cpy8 (N := 8) hp, cpy8 (N := 8) hp⟩, rfl⟩
theorem c_wkBecome (g u : V_Wk) : ∃ w, f_Wk_become g u = some w ∧ (∀ p, p < 16 → w.1 p = u.1 p ∧ w.2.1 p = u.2.1 p ∧ w.2.2.1 p = u.2.2.1 p ∧ w.2.2.2.1 p = u.2.2.2.1 p ∧ w.2.2.2.2.1 p = u.2.2.2.2.1 p) ∧ w.2.2.2.2.2 = u.2.2.2.2.2 := by
  unfold f_Wk_become
  rw [og_t (by decide), nx_s, og_t (by decide), nx_s, og_t (by decide), nx_s, og_t (by decide), nx_s, og_t (by decide), nx_s]
  exact ⟨_, rfl, fun p hp => ⟨cpy8 (N := 16) hp, cpy8 (N := 16) hp, cpy8 (N := 16) hp, cpy8 (N := 16) hp, cpy8 (N := 16) hp⟩, rfl⟩
theorem gd_dy {n : Nat} (h : n ≤ 300) : (¬ (0 : Int32) < 0) ∧ (¬ (0 : Int32) < 0) ∧ (¬ nI (n + 1) < 0) ∧ (0 : Int32).toNatClampNeg + (nI (n + 1)).toNatClampNeg ≤ 301 ∧ (0 : Int32).toNatClampNeg + (nI (n + 1)).toNatClampNeg ≤ 301 := by
  have e0 : (0 : Int32).toNatClampNeg = 0 := rfl
  have e1 : ¬ nI (n + 1) < 0 := by
    rw [k0]
    exact nI_nlt (by omega) (by omega)
  rw [e0, i_cl (by omega)]
  exact ⟨by decide, by decide, e1, by omega, by omega⟩
theorem c_dyBecome (g : V_Dy) {u : V_Dy} {n : Nat} (hn : dsz u = nI n) (h3 : n ≤ 300) : ∃ w, f_Dy_become g u = some w ∧ (∀ i, i ≤ n → lgD w i = lgD u i) ∧ dsz w = dsz u ∧ dsv w = dsv u := by
  have hn' : u.2.2.2.2.2.2.2.1 + 1 = nI (n + 1) := by
    have : u.2.2.2.2.2.2.2.1 = nI n := hn
    rw [this, kk1, i_add]
  have hc : (nI (n + 1)).toNatClampNeg = n + 1 := i_cl (by omega)
  unfold f_Dy_become
  rw [hn', og_t (gd_dy h3), nx_s, og_t (gd_dy h3), nx_s, og_t (gd_dy h3), nx_s, og_t (gd_dy h3), nx_s, og_t (gd_dy h3), nx_s, og_t (gd_dy h3), nx_s, og_t (gd_dy h3), nx_s, hc]
  refine ⟨_, rfl, fun i hi => ?_, rfl, rfl⟩
  have hi' : i < n + 1 := by omega
  unfold lgD
  have e0 : (0 : Int32).toNatClampNeg = 0 := rfl
  simp only [e0, cpy8 hi']
theorem nob_cg {L L' : Nat → E7} {n : Nat} {x : Int32} (h : ∀ i, 1 ≤ i → i ≤ n → L i = L' i) (h1 : 1 ≤ lst L x n) : nob L x n ↔ nob L' x n := by
  unfold nob
  rw [← lst_cg x n h, h _ h1 (lst_le _ _ _)]
theorem RL_L {L L' : Nat → E7} {n : Nat} {f : Nat → Int32} (hV : VL L n) (h : ∀ i, 1 ≤ i → i ≤ n → L i = L' i) (hR : RL L n f) : RL L' n f := by
  obtain ⟨h1, h2, h3, h4⟩ := hR
  have e1 := nwk_cg n h
  refine ⟨fun i a b => (h i a b).symm.trans (h1 i a b), h2, by rw [← e1]; exact h3, fun w hw => ?_⟩
  rw [← e1] at hw
  rw [h4 w hw]
  unfold sta
  rw [← lst_cg (nI w) n h, ← h _ (wk_has n hV w hw) (lst_le _ _ _)]
/-- two states alike in all that counts -/
def ALK (u w : V_St) (n : Nat) : Prop := (∀ p, p < 8 → w.1.1 p = u.1.1 p ∧ w.1.2.1 p = u.1.2.1 p ∧ w.1.2.2.1 p = u.1.2.2.1 p ∧ w.1.2.2.2.1 p = u.1.2.2.2.1 p) ∧ w.1.2.2.2.2 = u.1.2.2.2.2 ∧ (∀ i, i ≤ n → lgD w.2.1 i = lgD u.2.1 i) ∧ dsz w.2.1 = dsz u.2.1 ∧ dsv w.2.1 = dsv u.2.1 ∧ (∀ p, p < 16 → w.2.2.1.1 p = u.2.2.1.1 p ∧ w.2.2.1.2.1 p = u.2.2.1.2.1 p ∧ w.2.2.1.2.2.1 p = u.2.2.1.2.2.1 p ∧ w.2.2.1.2.2.2.1 p = u.2.2.1.2.2.2.1 p ∧ w.2.2.1.2.2.2.2.1 p = u.2.2.1.2.2.2.2.1 p) ∧ w.2.2.1.2.2.2.2.2 = u.2.2.1.2.2.2.2.2 ∧ w.2.2.2 = u.2.2.2
theorem INV_alk {u w : V_St} {n s : Nat} (h : ALK u w n) (I : INV u n s) : INV w n s := by
  obtain ⟨p1, p2, d1, d2, d3, k1, k2, r⟩ := h
  obtain ⟨⟨w1, w2, w3⟩, i2, i3, i4, i5, i6, i7, i8, i9⟩ := I
  have h16 := nwk_16 n w2
  have hg : ∀ i, 1 ≤ i → i ≤ n → lgD u.2.1 i = lgD w.2.1 i := fun i _ b => (d1 i b).symm
  have em : mdg w = mdg u := congrArg (fun z => z.1) r
  have eb : bgn w = bgn u := congrArg (fun z => z.2.1) r
  have ea : agn w = agn u := congrArg (fun z => z.2.2.1) r
  have hh : ∀ p, hnd w.1 p ↔ hnd u.1 p := fun p => by
    unfold hnd
    rw [p2]
  refine ⟨⟨d2.trans w1, VL_cg n hg w2, ?_⟩, d3.trans i2, i3, fun p hp => ?_, by rw [em]; exact i5, by rw [eb]; exact i6, fun q x ho => ?_, fun q q2 => ?_, fun q => ?_⟩
  · refine WKS_cg hg w2 ⟨k2.trans w3.1, fun v hv => ?_⟩
    obtain ⟨a1, a2, a3, a4, a5⟩ := k1 v (by omega)
    rw [a1, a2, a3, a4, a5]
    exact w3.2 v hv
  · obtain ⟨a1, a2, a3, a4⟩ := p1 p hp
    obtain ⟨x, y, z⟩ := i4 p hp
    rw [a1, a2, a3, a4]
    exact ⟨x, y, fun q => z ((hh p).mp q)⟩
  · have ho' := (opn_cg hg).mpr ho
    exact (nob_cg hg ho'.1).mp (i7 (em.symm.trans q) x ho')
  · obtain ⟨x, y, z⟩ := i8 (em.symm.trans q) (eb.symm.trans q2)
    exact ⟨x, ea.trans y, fun p hp t => z p hp ((hh p).mp t)⟩
  · obtain ⟨a, x, y⟩ := i9 (em.symm.trans q)
    exact ⟨a, ea.trans x, y⟩
theorem REL_alk {u w : V_St} {f : Nat → Int32} {n s : Nat} (h : ALK u w n) (I : INV u n s) (R : REL u f n s) : REL w f n s := by
  obtain ⟨p1, p2, d1, d2, d3, k1, k2, r⟩ := h
  obtain ⟨⟨w1, w2, w3⟩, i2, i3, i4, i5, i6, i7, i8, i9⟩ := I
  obtain ⟨r1, r2, r3, r4, r5, r6, r7, r8, r9, r10⟩ := R
  have hg : ∀ i, 1 ≤ i → i ≤ n → lgD u.2.1 i = lgD w.2.1 i := fun i _ b => (d1 i b).symm
  have em : mdg w = mdg u := congrArg (fun z => z.1) r
  have eb : bgn w = bgn u := congrArg (fun z => z.2.1) r
  have ea : agn w = agn u := congrArg (fun z => z.2.2.1) r
  have ef : flo w = flo u := congrArg (fun z => z.2.2.2.1) r
  have es : stp w = stp u := congrArg (fun z => z.2.2.2.2.1) r
  have el : los w = los u := congrArg (fun z => z.2.2.2.2.2) r
  have hh : ∀ p, hnd w.1 p ↔ hnd u.1 p := fun p => by
    unfold hnd
    rw [p2]
  refine ⟨RL_L w2 hg r1, fun p hp => ?_, r3, by rw [em]; exact r4, by rw [eb]; exact r5, by rw [ef]; exact r6, by rw [es]; exact r7, by rw [el]; exact r8, fun q => by rw [em]; exact r9 (eb.symm.trans q), fun q q2 => ?_⟩
  · obtain ⟨a1, a2, a3, a4⟩ := p1 p hp
    obtain ⟨x, y, z, t⟩ := r2 p hp
    rw [a1, a2, a3, a4]
    exact ⟨x, y, fun q => z ((hh p).mp q), fun q => t (fun k => q ((hh p).mpr k))⟩
  · obtain ⟨x, d, a, y1, y2, y3, y4, y5⟩ := r10 (em.symm.trans q) (eb.symm.trans q2)
    refine ⟨x, d, a, y1, ea.trans y2, y3, y4, fun i z1 z2 => ?_⟩
    rw [d1 i (by omega)]
    exact y5 i z1 z2
theorem c_become (v : V_St) {u : V_St} {n s : Nat} (I : INV u n s) : ∃ w, f_St_become v u = some w ∧ ALK u w n := by
  obtain ⟨⟨w1, w2, w3⟩, i2, i3, i4, i5, i6, i7, i8, i9⟩ := I
  have h300 := VL_300 w2
  obtain ⟨g, g1, g2, g3⟩ := c_pgBecome v.1 u.1
  obtain ⟨d, d1, d2, d3, d4⟩ := c_dyBecome v.2.1 w1 h300
  obtain ⟨k, k1, k2, k3⟩ := c_wkBecome v.2.2.1 u.2.2.1
  refine ⟨(g, d, k, u.2.2.2), ?_, g2, g3, d2, d3, d4, k2, k3, rfl⟩
  unfold f_St_become
  rw [g1, oc_s, d1, oc_s, k1, oc_s, og_t i5, og_t i6]
/-- rows alike below 2400 -/
theorem REL_row {u : V_St} {f f' : Nat → Int32} {n s : Nat} (e : ∀ j, j < 2400 → f' j = f j) (I : INV u n s) (R : REL u f n s) : REL u f' n s := by
  obtain ⟨⟨w1, w2, w3⟩, i2, i3, i4, i5, i6, i7, i8, i9⟩ := I
  obtain ⟨⟨l1, l2, l3, l4⟩, r2, r3, r4, r5, r6, r7, r8, r9, r10⟩ := R
  have h300 := VL_300 w2
  have h16 := nwk_16 n w2
  refine ⟨⟨fun i a b => ?_, by rw [e 57 (by omega)]; exact l2, by rw [e 56 (by omega)]; exact l3, fun w hw => by rw [e (40 + w) (by omega)]; exact l4 w hw⟩, PGR_cg r2 (fun j hj => e j (by omega)), ?_, ?_, ?_, ?_, ?_, ?_, ?_, ?_⟩
  · rw [l1 i a b]
    unfold lgR
    simp (disch := omega) only [e]
  · rw [e 58 (by omega)]; exact r3
  · rw [e 59 (by omega)]; exact r4
  · rw [e 60 (by omega)]; exact r5
  · rw [e 63 (by omega)]; exact r6
  · rw [e 64 (by omega)]; exact r7
  · rw [e 65 (by omega)]; exact r8
  · rw [e 66 (by omega)]; exact r9
  · rw [e 61 (by omega), e 62 (by omega)]; exact r10
