/-! ===== PURE 15: mending, step by step ===== -/
def MND (v : V_St) (f : Nat → Int32) (n s a d : Nat) : Prop :=
  BK v f n s ∧ dsv v.2.1 = nI s ∧ s ≤ n ∧ mdg v = 1 ∧ bgn v = 1 ∧ agn v = nI a ∧ 1 ≤ a ∧ a ≤ s + 1 ∧ f 58 = nI s ∧ f 59 = 1 ∧ f 60 = 1 ∧ f 61 = nI s ∧ f 62 = nI d ∧ f 63 = flo v ∧ f 64 = stp v ∧ f 65 = los v ∧ d < a ∧ (∀ i, d < i → i < a → ¬ isCh (lgD v.2.1 i))
theorem MND_A {v : V_St} {f : Nat → Int32} {n s a d j : Nat} (h : MND v f n s a d) (hj : FND (lgD v.2.1) s a j) : MND (setA v j) f n s j d := by
  obtain ⟨m1, m2, m3, m4, m5, m6, m7, m8, m9, m10, m11, m12, m13, m14, m15, m16, m17, m18⟩ := h
  obtain ⟨j1, j2, j3, j4⟩ := hj
  refine ⟨m1, m2, m3, m4, m5, rfl, by omega, j2, m9, m10, m11, m12, m13, m14, m15, m16, by omega, fun i x y => ?_⟩
  by_cases q : i < a
  · exact m18 i x q
  · exact j3 i (by omega) y
theorem nbL_0 {L : Nat → E7} {n : Nat} (hV : VL L n) (h : nbL L n = 0) : ∀ x, ¬ opn L x n := by
  intro x ho
  obtain ⟨w, h1, rfl⟩ := opn_lt hV ho
  rcases nb_ok (c := fun w => opn L (nI w) n) (g := fun w => gon L (nI w) n) (nwk L n) 0 0 (Or.inl rfl) with ⟨_, _, q⟩ | ⟨q, _, _⟩
  · exact q w (by omega) (by omega) ho
  · have : nb (fun w => opn L (nI w) n) (fun w => gon L (nI w) n) 0 (nwk L n) 0 = 0 := h
    omega
theorem nbL_s {L : Nat → E7} {n : Nat} (h : ¬ nbL L n = 0) : ∃ w, nbL L n = w + 1 ∧ w < nwk L n ∧ opn L (nI w) n := by
  rcases nb_ok (c := fun w => opn L (nI w) n) (g := fun w => gon L (nI w) n) (nwk L n) 0 0 (Or.inl rfl) with ⟨q, _, _⟩ | ⟨q1, q2, q3⟩
  · exact absurd q h
  · have e : nbL L n = nb (fun w => opn L (nI w) n) (fun w => gon L (nI w) n) 0 (nwk L n) 0 := rfl
    refine ⟨nbL L n - 1, by omega, by omega, q3⟩
theorem enc_6 {b : Nat} (h : b ≤ 16) : enc b = -6 ↔ b = 0 := by
  cases b with
  | zero => exact ⟨fun _ => rfl, fun _ => rfl⟩
  | succ b => exact ⟨fun q => absurd q (m6_ne b (by omega)), fun q => by omega⟩
theorem s_left {v : V_St} {f : Nat → Int32} {n s a d : Nat} (h : MND v f n s a d) : ∃ j, FND (lgD v.2.1) s a j ∧ MND (setA v j) f n s j d ∧ (j ≤ s ∨ ¬ nbL (lgD v.2.1) n = 0 → f_St_isAnythingLeft v = some (1, setA v j) ∧ f_Md_isLeft f = some 1) ∧ (¬ j ≤ s → nbL (lgD v.2.1) n = 0 → f_St_isAnythingLeft v = some (0, setA v j) ∧ f_Md_isLeft f = some 0) ∧ f_Md_nextAgain f = some (if j ≤ s then nI j else 0) := by
  obtain ⟨⟨b1, b2, b3, b4⟩, m2, m3, m4, m5, m6, m7, m8, m9, m10, m11, m12, m13, m14, m15, m16, m17, m18⟩ := id h
  have hV := b1.2.1
  have h300 := VL_300 hV
  have h16 := nwk_16 n hV
  obtain ⟨j, hj, c1⟩ := c_find b1 m2 m3 m6 m7 m8
  have hA := MND_A h hj
  obtain ⟨-, -, -, -, -, -, -, -, -, -, -, -, -, -, -, -, a17, a18⟩ := id hA
  have hN := r_next b2.1 h300 m12 m13 m3 a17 hj.2.1 a18 hj.2.2.2
  have hcB := c_nextB b1.2.2 hV
  have hrB := r_nextB hV b2
  have hnb : nbL (lgD v.2.1) n ≤ 16 := by
    by_cases q : nbL (lgD v.2.1) n = 0
    · omega
    · obtain ⟨w, q1, q2, -⟩ := nbL_s q
      omega
  refine ⟨j, hj, hA, fun q => ?_, fun q1 q2 => ?_, hN⟩
  · by_cases q1 : j ≤ s
    · constructor
      · unfold f_St_isAnythingLeft
        rw [c1, oc_s]
        unfold fl
        rw [if_pos q1, ob_not d10]
      · unfold f_Md_isLeft
        rw [hN, oc_s, if_pos q1, k0, ob_ltt (by have := hj.1; omega) (by omega)]
    · have q2 := q.resolve_left q1
      constructor
      · unfold f_St_isAnythingLeft
        rw [c1, oc_s]
        unfold fl
        rw [if_neg q1, ob_rfl]
        show oc (f_Wk_nextToTakeBack v.2.2.1) _ = _
        rw [hcB, oc_s, ob_f (fun z => q2 ((enc_6 hnb).mp z))]
      · unfold f_Md_isLeft
        rw [hN, oc_s, if_neg q1, ob_f (by decide), hrB, oc_s, ob_f (fun z => q2 ((enc_6 hnb).mp z))]
  · constructor
    · unfold f_St_isAnythingLeft
      rw [c1, oc_s]
      unfold fl
      rw [if_neg q1, ob_rfl]
      show oc (f_Wk_nextToTakeBack v.2.2.1) _ = _
      rw [hcB, oc_s, ob_t ((enc_6 hnb).mpr q2)]
    · unfold f_Md_isLeft
      rw [hN, oc_s, if_neg q1, ob_f (by decide), hrB, oc_s, ob_t ((enc_6 hnb).mpr q2)]
theorem ch_page {L : Nat → E7} {n j : Nat} (hV : VL L n) (h1 : 1 ≤ j) (h2 : j ≤ n) (hc : isCh (L j)) : ∃ p, p < 8 ∧ (L j).2.2.2.1 = nI p ∧ 0 ≤ (L j).2.2.2.2.2.1 := by
  have hv := VL_at hV h1 h2
  rcases hc with k | k
  · obtain ⟨-, -, -, ⟨p, p1, p2⟩, -, ht, -⟩ := vent_1 hv k
    exact ⟨p, p1, p2, ht⟩
  · obtain ⟨g1, g2, g3, g4, g5, g6⟩ := vent_2 hv k
    have hV' := VL_le hV (show j - 1 ≤ n by omega)
    obtain ⟨m1, m2, m3, m4, -⟩ := gon_ok (j - 1) hV' _ g1
    obtain ⟨-, -, -, ⟨p, p1, p2⟩, hb, -⟩ := vent_1 (VL_at hV' m1 (Nat.le_trans m2 (lst_le _ _ _))) g2
    exact ⟨p, p1, g3.trans p2, by rw [g5]; exact hb⟩
theorem s_again {v : V_St} {f : Nat → Int32} {n s j d : Nat} (h : MND v f n s j d) (hj : j ≤ s) (hc : isCh (lgD v.2.1 j)) (hN : f_Md_nextAgain f = some (nI j)) : ∃ g' f', f_St_doAgain (nI j) v = some (g', v.2) ∧ f_Md_step f = some f' ∧ MND (setA (g', v.2) (j + 1)) f' n s (j + 1) j := by
  obtain ⟨⟨b1, b2, b3, b4⟩, m2, m3, m4, m5, m6, m7, m8, m9, m10, m11, m12, m13, m14, m15, m16, m17, m18⟩ := h
  have hV := b1.2.1
  have h300 := VL_300 hV
  have h16 := nwk_16 n hV
  obtain ⟨p, hp, hpg, hth⟩ := ch_page hV m7 (by omega) hc
  have e1 : v.2.1.2.2.2.1 j = nI p := hpg
  obtain ⟨T1, T2⟩ := PGI_tkh hp m3 b4
  obtain ⟨-, -, t3⟩ := T1 p hp
  obtain ⟨⟨k, k1, k2⟩, -⟩ := t3 T2
  have hF : ∀ i, i ≠ 62 → upd f 62 (nI j) i = f i := fun i hi => up_n _ _ hi
  have P1 : PGR (tkh v.1 p) (tkR (upd f 62 (nI j)) p) := PGR_tk hp (PGR_cg b3 (fun i hi => hF i (by omega)))
  have eF3 : f (67 + 7 * (j - 1) + 3) = nI p := by rw [← hpg, b2.1 j m7 (by omega)]; rfl
  have eF5 : f (67 + 7 * (j - 1) + 5) = (lgD v.2.1 j).2.2.2.2.2.1 := by rw [b2.1 j m7 (by omega)]; rfl
  have eM : tkR (upd f 62 (nI j)) p (32 + p) = nI k := by rw [((P1 p hp).2.2.1 T2).2.2]; exact k2
  have hT : ∀ i, 40 ≤ i → i ≠ 62 → tkR (upd f 62 (nI j)) p i = f i := fun i a b => by rw [tkR_o hp (by omega), hF i b]
  have h62 : tkR (upd f 62 (nI j)) p 62 = nI j := by rw [tkR_o hp (by omega), up_s]
  have eC : f_St_doAgain (nI j) v = ob (nI j ≤ nI k) (some (tkh v.1 p, v.2)) (some (chg (tkh v.1 p) p (lgD v.2.1 j).2.2.2.2.2.1 (nI j), v.2)) := by
    unfold f_St_doAgain
    rw [c_page b1.1 h300 m7 (by omega), oc_s, e1, c_take hp, oc_s, c_marH hp T2, oc_s, k2, c_then b1.1 h300 m7 (by omega), oc_s, c_change hp, oc_s]
    rfl
  have eR : f_Md_step f = ob (nI j ≤ nI k) (some (tkR (upd f 62 (nI j)) p)) (some (chR (tkR (upd f 62 (nI j)) p) p (lgD v.2.1 j).2.2.2.2.2.1 (nI j))) := by
    unfold f_Md_step
    rw [hN, oc_s, k0, ob_eqf (by omega) (by omega) (by omega), k62, og_in (by omega) (by omega), i_cl (by omega), nx_s, r_at m7, oc_s, k3, i_add, og_in (by omega) (by omega), i_cl (by omega), hF _ (by omega), eF3, r_take hp, oc_s, k32, i_add, og_in (by omega) (by omega), i_cl (by omega), eM, oc_s, k5, i_add, og_in (by omega) (by omega), i_cl (by omega), hT _ (by omega) (by omega), eF5, r_change hp, oc_s]
  have fin : ∀ (g' : V_Pg) (f' : Nat → Int32), PGR g' f' → PGI g' n s → (∀ i, 40 ≤ i → i ≠ 62 → f' i = f i) → f' 62 = nI j → MND (setA (g', v.2) (j + 1)) f' n s (j + 1) j := by
    intro g' f' x1 x2 x3 x4
    refine ⟨⟨b1, RL_cg b2 (fun i a b => x3 i a (by omega)) (fun i a => x3 i (by omega) (by omega)) h16, x1, x2⟩, m2, m3, m4, m5, rfl, by omega, by omega, ?_, ?_, ?_, ?_, x4, ?_, ?_, ?_, by omega, fun i y z => by omega⟩
    · rw [x3 58 (by omega) (by omega)]; exact m9
    · rw [x3 59 (by omega) (by omega)]; exact m10
    · rw [x3 60 (by omega) (by omega)]; exact m11
    · rw [x3 61 (by omega) (by omega)]; exact m12
    · rw [x3 63 (by omega) (by omega)]; exact m14
    · rw [x3 64 (by omega) (by omega)]; exact m15
    · rw [x3 65 (by omega) (by omega)]; exact m16
  rw [eC, eR]
  by_cases q : j ≤ k
  · rw [ob_let q (by omega), ob_let q (by omega)]
    exact ⟨_, _, rfl, rfl, fin _ _ P1 T1 hT h62⟩
  · rw [ob_lef (by omega) (by omega), ob_lef (by omega) (by omega)]
    refine ⟨_, _, rfl, rfl, fin _ _ (PGR_ch hp P1 _ _) (PGI_chg hp T1 (Nat.le_refl n) (by omega) hth) (fun i a b => ?_) ?_⟩
    · rw [chR_o hp _ _ (by omega), hT i a b]
    · rw [chR_o hp _ _ (by omega), h62]
noncomputable def mstep {α : Type _} (K : V_St → Option α) (v : V_St) : Option α := oc (f_St_findAgain v) (fun q_45 => ob (q_45.1 = 0) (oc (f_Wk_nextToTakeBack q_45.2.2.2.1) (fun q_77 => oc (f_St_stepBack q_77 q_45.2) (fun q_80 => K q_80))) (oc (f_St_doAgain q_45.2.2.2.2.2.2.1 q_45.2) (fun q_56 => K (q_56.1, q_56.2.1, q_56.2.2.1, q_56.2.2.2.1, q_56.2.2.2.2.1, (q_56.2.2.2.2.2.1 + (1 : Int32)), q_56.2.2.2.2.2.2.1, q_56.2.2.2.2.2.2.2.1, q_56.2.2.2.2.2.2.2.2))))
theorem s_mstep {α : Type _} (K : V_St → Option α) {v : V_St} {f : Nat → Int32} {n s j d : Nat} (h : MND v f n s j d) (hc : j ≤ s → isCh (lgD v.2.1 j)) (hN : f_Md_nextAgain f = some (if j ≤ s then nI j else 0)) (hl : j ≤ s ∨ ¬ nbL (lgD v.2.1) n = 0) : ∃ v' f' n' a' d', mstep K v = K v' ∧ f_Md_step f = some f' ∧ MND v' f' n' s a' d' ∧ (s + 1 - a') + (300 - n') + 1 ≤ (s + 1 - j) + (300 - n) ∧ stp v' = stp v := by
  obtain ⟨⟨b1, b2, b3, b4⟩, m2, m3, m4, m5, m6, m7, m8, m9, m10, m11, m12, m13, m14, m15, m16, m17, m18⟩ := id h
  have hV := b1.2.1
  have h300 := VL_300 hV
  have h16 := nwk_16 n hV
  obtain ⟨j', hj', c1⟩ := c_find b1 m2 m3 m6 m7 m8
  have ej : j' = j := by
    obtain ⟨x1, x2, x3, x4⟩ := hj'
    by_cases q : j ≤ s
    · by_cases q2 : j' = j
      · exact q2
      · exact absurd (hc q) (x3 j (Nat.le_refl _) (by omega))
    · omega
  subst ej
  rw [setA_id m6] at c1
  unfold mstep
  rw [c1, oc_s]
  unfold fl
  by_cases q : j' ≤ s
  · rw [if_pos q] at hN
    obtain ⟨g', f', t1, t2, t3⟩ := s_again h q (hc q) hN
    refine ⟨setA (g', v.2) (j' + 1), f', n, j' + 1, j', ?_, t2, t3, by omega, rfl⟩
    have e6 : v.2.2.2.2.2.1 = nI j' := m6
    rw [if_pos q, ob_not d10]
    show oc (f_St_doAgain v.2.2.2.2.2.1 v) _ = _
    rw [e6, t1, oc_s]
    show K (g', v.2.1, v.2.2.1, v.2.2.2.1, v.2.2.2.2.1, v.2.2.2.2.2.1 + 1, v.2.2.2.2.2.2.1, v.2.2.2.2.2.2.2.1, v.2.2.2.2.2.2.2.2) = _
    rw [e6, kk1, i_add]
  · have q2 := hl.resolve_left q
    obtain ⟨w, w1, w2, w3⟩ := nbL_s q2
    obtain ⟨g', k', f', t1, t2, t3, t4, t5⟩ := s_back ⟨b1, b2, b3, b4⟩ w2 w3
    have hn2 := VL_300 t3.1.2.1
    refine ⟨(g', addE v.2.1 n (backE (lgD v.2.1) n (nI w)), k', v.2.2.2), f', n + 1, j', d, ?_, ?_, ?_, by omega, rfl⟩
    · rw [if_neg q, ob_rfl]
      show oc (f_Wk_nextToTakeBack v.2.2.1) _ = _
      rw [c_nextB b1.2.2 hV, oc_s, w1]
      show oc (f_St_stepBack (nI w) v) _ = _
      rw [t1, oc_s]
    · unfold f_Md_step
      rw [hN, oc_s, if_neg q, ob_rfl, r_nextB hV b2, oc_s, w1]
      show oc (f_Md_stepBack (nI w) f) _ = _
      rw [t2, oc_s]
    · refine ⟨t3, m2, by omega, m4, m5, m6, m7, m8, ?_, ?_, ?_, ?_, ?_, ?_, ?_, ?_, m17, fun i x y => ?_⟩
      · rw [t4 58 (by omega) (by omega)]; exact m9
      · rw [t4 59 (by omega) (by omega)]; exact m10
      · rw [t4 60 (by omega) (by omega)]; exact m11
      · rw [t4 61 (by omega) (by omega)]; exact m12
      · rw [t4 62 (by omega) (by omega)]; exact m13
      · rw [t4 63 (by omega) (by omega)]; exact m14
      · rw [t4 64 (by omega) (by omega)]; exact m15
      · rw [t4 65 (by omega) (by omega)]; exact m16
      · show ¬ isCh (lgD (addE _ _ _) i)
        rw [lgD_old _ _ _ (by omega)]
        exact m18 i x y
theorem mend_par {s T : Nat} (hT : T ≤ 999) : ∀ (k i N1 N2 : Nat) (v : V_St) (f : Nat → Int32) (n a d : Nat), i + k = T → k < N1 → k < N2 → MND v f n s a d → ∃ v' f' n' a' d' i', f_St_mendSteps_32 N1 (nI T) (nI i) v = f_St_mendSteps_89 (nI i') v' ∧ f_Md_mendOn_27 N2 (nI T) (nI i) f = f_Md_mendOn_49 (nI i') f' ∧ i' ≤ T ∧ MND v' f' n' s a' d' ∧ i' + (s + 1 - a') + (300 - n') ≤ i + (s + 1 - a) + (300 - n) ∧ (i' < T → a' = s + 1 ∧ nbL (lgD v'.2.1) n' = 0) ∧ stp v' = stp v := by
  intro k
  induction k with
  | zero =>
    intro i N1 N2 v f n a d hi h1 h2 h
    obtain ⟨N1, rfl⟩ : ∃ q, N1 = q + 1 := ⟨N1 - 1, by omega⟩
    obtain ⟨N2, rfl⟩ : ∃ q, N2 = q + 1 := ⟨N2 - 1, by omega⟩
    refine ⟨v, f, n, a, d, i, ?_, ?_, by omega, h, Nat.le_refl _, fun q => by omega, rfl⟩
    · rw [e_St_mendSteps_32, ob_let (by omega) (by omega)]
    · rw [e_Md_mendOn_27, ob_let (by omega) (by omega)]
  | succ k ih =>
    intro i N1 N2 v f n a d hi h1 h2 h
    obtain ⟨N1, rfl⟩ : ∃ q, N1 = q + 1 := ⟨N1 - 1, by omega⟩
    obtain ⟨N2, rfl⟩ : ∃ q, N2 = q + 1 := ⟨N2 - 1, by omega⟩
    obtain ⟨j, hj, hA, L1, L0, hN⟩ := s_left h
    by_cases q : j ≤ s ∨ ¬ nbL (lgD v.2.1) n = 0
    · obtain ⟨x1, x2⟩ := L1 q
      obtain ⟨v', f', n', a', d', y1, y2, y3, y4, y5⟩ := s_mstep (fun u => f_St_mendSteps_32 N1 (nI T) (nI (i + 1)) u) hA hj.2.2.2 hN q
      obtain ⟨v2, f2, n2, a2, d2, i2, z1, z2, z3, z4, z5, z6, z7⟩ := ih (i + 1) N1 N2 v' f' n' a' d' (by omega) (by omega) (by omega) y3
      have := hj.1
      refine ⟨v2, f2, n2, a2, d2, i2, ?_, ?_, z3, z4, by omega, z6, z7.trans y5⟩
      · rw [e_St_mendSteps_32, ob_lef (by omega) (by omega), x1, oc_s, ob_not d10, kk1, i_add, ← z1, ← y1]
        rfl
      · rw [e_Md_mendOn_27, ob_lef (by omega) (by omega), x2, oc_s, ob_not d10, y2, oc_s, kk1, i_add]
        exact z2
    · have q1 : ¬ j ≤ s := fun z => q (Or.inl z)
      have q2 : nbL (lgD v.2.1) n = 0 := Classical.not_not.mp (fun z => q (Or.inr z))
      obtain ⟨x1, x2⟩ := L0 q1 q2
      have := hj.1
      have := hj.2.1
      refine ⟨setA v j, f, n, j, d, i, ?_, ?_, by omega, hA, by omega, fun _ => ⟨by omega, q2⟩, rfl⟩
      · rw [e_St_mendSteps_32, ob_lef (by omega) (by omega), x1, oc_s, ob_rfl]
      · rw [e_Md_mendOn_27, ob_lef (by omega) (by omega), x2, oc_s, ob_rfl]
