/-! ===== PURE 16: a call of mending ===== -/
theorem mend_fin {v : V_St} {f : Nat → Int32} {n s a d i : Nat} (h : MND v f n s a d) : ∃ v' f' s', f_St_mendSteps_89 (nI i) v = some (nI i, v') ∧ f_Md_mendOn_49 (nI i) f = some (nI i, f') ∧ INV v' n s' ∧ REL v' f' n s' ∧ bgn v' = 1 ∧ (a = s + 1 → nbL (lgD v.2.1) n = 0 → mdg v' = 0) ∧ stp v' = stp v + nI i := by
  obtain ⟨⟨b1, b2, b3, b4⟩, m2, m3, m4, m5, m6, m7, m8, m9, m10, m11, m12, m13, m14, m15, m16, m17, m18⟩ := id h
  have hV := b1.2.1
  have h300 := VL_300 hV
  have h16 := nwk_16 n hV
  have hF : ∀ j, j ≠ 64 → upd f 64 (f 64 + nI i) j = f j := fun j hj => up_n _ _ hj
  have h1 : MND (v.1, v.2.1, v.2.2.1, v.2.2.2.1, v.2.2.2.2.1, v.2.2.2.2.2.1, v.2.2.2.2.2.2.1, (v.2.2.2.2.2.2.2.1 + nI i), v.2.2.2.2.2.2.2.2) (upd f 64 (f 64 + nI i)) n s a d := by
    refine ⟨⟨b1, RL_cg b2 (fun j x y => hF j (by omega)) (fun j x => hF j (by omega)) h16, PGR_cg b3 (fun j hj => hF j (by omega)), b4⟩, m2, m3, m4, m5, m6, m7, m8, ?_, ?_, ?_, ?_, ?_, ?_, ?_, ?_, m17, m18⟩
    · rw [hF 58 (by omega)]; exact m9
    · rw [hF 59 (by omega)]; exact m10
    · rw [hF 60 (by omega)]; exact m11
    · rw [hF 61 (by omega)]; exact m12
    · rw [hF 62 (by omega)]; exact m13
    · rw [hF 63 (by omega)]; exact m14
    · rw [up_s, m15]
    · rw [hF 65 (by omega)]; exact m16
  obtain ⟨j, hj, hA, L1, L0, hN⟩ := s_left h1
  obtain ⟨⟨c1, c2, c3, c4⟩, p2, p3, p4, p5, p6, p7, p8, p9, p10, p11, p12, p13, p14, p15, p16, p17, p18⟩ := id hA
  have eC : ∀ b u, f_St_isAnythingLeft (v.1, v.2.1, v.2.2.1, v.2.2.2.1, v.2.2.2.2.1, v.2.2.2.2.2.1, v.2.2.2.2.2.2.1, (v.2.2.2.2.2.2.2.1 + nI i), v.2.2.2.2.2.2.2.2) = some (b, u) → f_St_mendSteps_89 (nI i) v = ob (b = 0) (oc (f_Dy_saveUpTo u.2.1.2.2.2.2.2.2.2.1 u.2.1) (fun q_122 => some (nI i, (u.1, q_122, u.2.2.1, (0 : Int32), u.2.2.2.2.1, u.2.2.2.2.2.1, u.2.2.2.2.2.2.1, u.2.2.2.2.2.2.2.1, u.2.2.2.2.2.2.2.2)))) (some (nI i, u)) := by
    intro b u e
    unfold f_St_mendSteps_89
    rw [e, oc_s]
  have eR : ∀ b, f_Md_isLeft (upd f 64 (f 64 + nI i)) = some b → f_Md_mendOn_49 (nI i) f = ob (b = 0) (some (nI i, upd (upd (upd f 64 (f 64 + nI i)) 59 0) 58 (nI n))) (some (nI i, upd f 64 (f 64 + nI i))) := by
    intro b e
    unfold f_Md_mendOn_49
    rw [k64, og_in (by omega) (by omega), og_in (by omega) (by omega), i_cl (by omega), nx_s, e, oc_s, k59, og_in (by omega) (by omega), i_cl (by omega), nx_s, k57, og_in (by omega) (by omega), k58, og_in (by omega) (by omega), i_cl (by omega), i_cl (by omega), nx_s, up_n _ _ (by omega), hF 57 (by omega), b2.2.1]
  by_cases q : j ≤ s ∨ ¬ nbL (lgD v.2.1) n = 0
  · obtain ⟨x1, x2⟩ := L1 q
    refine ⟨(v.1, v.2.1, v.2.2.1, v.2.2.2.1, v.2.2.2.2.1, nI j, v.2.2.2.2.2.2.1, (v.2.2.2.2.2.2.2.1 + nI i), v.2.2.2.2.2.2.2.2), upd f 64 (f 64 + nI i), s, by rw [eC _ _ x1, ob_not d10], by rw [eR _ x2, ob_not d10], ?_, ?_, m5, fun z1 z2 => ?_, rfl⟩
    · refine ⟨c1, p2, p3, c4, Or.inr p4, Or.inr p5, fun z => absurd (p4.symm.trans z) d10, fun _ z => absurd (p5.symm.trans z) d10, fun _ => ⟨j, p6, p7, p8⟩⟩
    · exact ⟨c2, c3, p9, p10.trans p4.symm, p11.trans p5.symm, p14, p15, p16, fun z => absurd (p5.symm.trans z) d10, fun _ _ => ⟨p12, d, j, p13, p6, p17, p8, p18⟩⟩
    · rcases q with q | q
      · have := hj.1
        omega
      · exact absurd z2 q
  · have q1 : ¬ j ≤ s := fun z => q (Or.inl z)
    have q2 : nbL (lgD v.2.1) n = 0 := Classical.not_not.mp (fun z => q (Or.inr z))
    obtain ⟨x1, x2⟩ := L0 q1 q2
    have hno := nbL_0 hV q2
    have es : f_Dy_saveUpTo v.2.1.2.2.2.2.2.2.2.1 v.2.1 = some (svD v.2.1 n) := by
      have e0 : v.2.1.2.2.2.2.2.2.2.1 = nI n := b1.1
      have e1 := c_save (m := n) m2 (by omega) (by omega)
      rw [Nat.max_eq_right m3] at e1
      rw [e0]
      exact e1
    have hG : ∀ k, k ≠ 58 → k ≠ 59 → upd (upd (upd f 64 (f 64 + nI i)) 59 0) 58 (nI n) k = upd f 64 (f 64 + nI i) k := fun k a b => by rw [up_n _ _ a, up_n _ _ b]
    refine ⟨(v.1, svD v.2.1 n, v.2.2.1, (0 : Int32), v.2.2.2.2.1, nI j, v.2.2.2.2.2.2.1, (v.2.2.2.2.2.2.2.1 + nI i), v.2.2.2.2.2.2.2.2), upd (upd (upd f 64 (f 64 + nI i)) 59 0) 58 (nI n), n, ?_, ?_, ?_, ?_, m5, fun _ _ => rfl, rfl⟩
    · rw [eC _ _ x1, ob_rfl]
      show oc (f_Dy_saveUpTo v.2.1.2.2.2.2.2.2.2.1 v.2.1) _ = _
      rw [es, oc_s]
    · rw [eR _ x2, ob_rfl]
    · refine ⟨c1, rfl, Nat.le_refl _, fun p hp => ?_, Or.inl rfl, Or.inr m5, fun _ x hx => absurd hx (hno x), fun z => absurd z d01, fun z => absurd z d01⟩
      obtain ⟨⟨k, y1, y2⟩, y3, y4⟩ := b4 p hp
      exact ⟨⟨k, by omega, y2⟩, y3, y4⟩
    · refine ⟨RL_cg c2 (fun k a b => hG k (by omega) (by omega)) (fun k a => hG k (by omega) (by omega)) h16, PGR_cg c3 (fun k hk => hG k (by omega) (by omega)), up_s _ _ _, ?_, ?_, ?_, ?_, ?_, fun z => absurd (m5.symm.trans z) d10, fun z => absurd z d01⟩
      · rw [up_n _ _ (by omega), up_s]
      · rw [hG 60 (by omega) (by omega)]; exact p11.trans p5.symm
      · rw [hG 63 (by omega) (by omega)]; exact p14
      · rw [hG 64 (by omega) (by omega)]; exact p15
      · rw [hG 65 (by omega) (by omega)]; exact p16
/-- mending begins, or goes on -/
theorem mend_start {v : V_St} {f : Nat → Int32} {n s T : Nat} (I : INV v n s) (R : REL v f n s) (h1 : mdg v = 1) : ∃ f0 a d, MND (v.1, v.2.1, v.2.2.1, v.2.2.2.1, (1 : Int32), v.2.2.2.2.2.1, v.2.2.2.2.2.2.1, v.2.2.2.2.2.2.2.1, v.2.2.2.2.2.2.2.2) f0 n s a d ∧ f_Md_mendOn (nI T) f = f_Md_mendOn_27 FU (nI T) 0 f0 := by
  obtain ⟨w0, i2, i3, i4, i5, i6, i7, i8, i9⟩ := I
  obtain ⟨w1, w2, w3⟩ := id w0
  obtain ⟨r1, r2, r3, r4, r5, r6, r7, r8, r9, r10⟩ := R
  have h300 := VL_300 w2
  have h16 := nwk_16 n w2
  rcases i6 with q | q
  · obtain ⟨hsn, h8, h9⟩ := i8 h1 q
    subst hsn
    have hF : ∀ j, j ≠ 60 → j ≠ 61 → j ≠ 62 → upd (upd (upd f 60 1) 61 (nI s)) 62 0 j = f j := fun j a b c => by rw [up_n _ _ c, up_n _ _ b, up_n _ _ a]
    refine ⟨upd (upd (upd f 60 1) 61 (nI s)) 62 0, 1, 0, ⟨⟨w0, RL_cg r1 (fun j a b => hF j (by omega) (by omega) (by omega)) (fun j a => hF j (by omega) (by omega) (by omega)) h16, PGR_cg r2 (fun j hj => hF j (by omega) (by omega) (by omega)), i4⟩, i2, i3, h1, rfl, h8, by omega, by omega, ?_, ?_, ?_, ?_, ?_, ?_, ?_, ?_, by omega, fun i x y => by omega⟩, ?_⟩
    · rw [hF 58 (by omega) (by omega) (by omega)]; exact r3
    · rw [hF 59 (by omega) (by omega) (by omega), r4]; exact h1
    · rw [up_n _ _ (by omega), up_n _ _ (by omega), up_s]
    · rw [up_n _ _ (by omega), up_s]
    · rw [up_s]; rfl
    · rw [hF 63 (by omega) (by omega) (by omega)]; exact r6
    · rw [hF 64 (by omega) (by omega) (by omega)]; exact r7
    · rw [hF 65 (by omega) (by omega) (by omega)]; exact r8
    · unfold f_Md_mendOn
      rw [k60, og_in (by omega) (by omega), i_cl (by omega), ob_t (show f 60 = 0 from r5.trans q), og_in (by omega) (by omega), nx_s, k57, og_in (by omega) (by omega), k61, og_in (by omega) (by omega), i_cl (by omega), i_cl (by omega), nx_s, k62, og_in (by omega) (by omega), i_cl (by omega), nx_s, up_n _ _ (by omega), r1.2.1]
  · obtain ⟨x1, d, a, x2, x3, x4, x5, x6⟩ := r10 h1 q
    refine ⟨f, a, d, ⟨⟨w0, r1, r2, i4⟩, i2, i3, h1, rfl, x3, by omega, x5, r3, r4.trans h1, r5.trans q, x1, x2, r6, r7, r8, x4, x6⟩, ?_⟩
    unfold f_Md_mendOn
    rw [k60, og_in (by omega) (by omega), i_cl (by omega), ob_f (show ¬ f 60 = 0 by rw [r5, q]; exact d10)]
theorem s_mend {v : V_St} {f : Nat → Int32} {n s : Nat} (I : INV v n s) (R : REL v f n s) (x : Int32) : SIMM v f (f_St_mendSteps x v) (f_Md_mend x) := by
  have r4 := R.2.2.2.1
  have i5 := I.2.2.2.2.1
  rcases rg_arg x (b := 999) (hi := 999) rfl with ⟨a1, a2⟩ | ⟨m, hm1, hm2, hm3, rfl, a2⟩ | ⟨m, hm1, hm2, hm3, rfl, a2⟩
  · refine Or.inl ⟨-2, by decide, ?_, fun M hM => ?_⟩
    · unfold f_St_mendSteps; rw [ob_t (show x < (1 : Int32) from a1)]
    · unfold f_Md_mend; rw [a2, oc_s, ob_rfl]
  rotate_left
  · refine Or.inl ⟨-2, by decide, ?_, fun M hM => ?_⟩
    · unfold f_St_mendSteps; rw [kk1, ob_ltf (by omega) (by omega), k999, ob_lef (by omega) (by omega)]
    · unfold f_Md_mend; rw [a2, oc_s, ob_rfl]
  have eC : f_St_mendSteps (nI m) v = ob (mdg v = 0) (some ((-5 : Int32), v)) (f_St_mendSteps_32 FU (nI m) (0 : Int32) (v.1, v.2.1, v.2.2.1, v.2.2.2.1, (1 : Int32), v.2.2.2.2.2.1, v.2.2.2.2.2.2.1, v.2.2.2.2.2.2.2.1, v.2.2.2.2.2.2.2.2)) := by
    unfold f_St_mendSteps
    rw [ob_f (show ¬ nI m < (1 : Int32) from nI_nlt (by omega) (by omega)), ob_t (show nI m ≤ (999 : Int32) by rw [k999]; exact nI_le hm2 (by omega))]
  by_cases c1 : mdg v = 0
  · refine Or.inl ⟨-5, by decide, by rw [eC, ob_t c1], fun M hM => ?_⟩
    unfold f_Md_mend
    rw [a2, oc_s, ob_f d10, k59, og_in (by omega) (by omega), i_cl (by omega), hM, ob_t (show f 59 = 0 from r4.trans c1)]
  have c1' := i5.resolve_left c1
  obtain ⟨f0, a, d, h1, h2⟩ := mend_start (T := m) I R c1'
  obtain ⟨v1, f1, n1, a1, d1, i1, y1, y2, y3, y4, y5, y6, y7⟩ := mend_par (T := m) hm2 m 0 FU FU _ f0 n a d (by omega) (by unfold FU; omega) (by unfold FU; omega) h1
  obtain ⟨v2, f2, s2, z1, z2, z3, z4, z5, z6, z7⟩ := mend_fin (i := i1) y4
  refine Or.inr ⟨nI i1, v2, f2, n1, s2, nI_pos' (by omega), ?_, fun M M' hM hr hM' => ?_, z3, z4⟩
  · rw [eC, ob_f c1]
    exact y1.trans z1
  · unfold f_Md_mend
    rw [a2, oc_s, ob_f d10, k59, og_in (by omega) (by omega), i_cl (by omega), hM, ob_f (show ¬ f 59 = 0 by rw [r4]; exact c1), hr, oc_s, hM', h2]
    have e := y2.trans z2
    exact (congrArg (fun o => oc o _) e).trans oc_s
